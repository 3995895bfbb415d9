abbrev rm_X11_onPlace : Room := { frames := 1, cells := 0, slots := 0, locals := 26 }
theorem in_X11_onPlace_X11 : ∀ w ∈ u_ws RX11 TX11 19, w ∈ wsX11_onPlace := by decide +kernel
theorem fl_X11_onPlace_159 : Cond.fieldLink RX11 159 (TX11 17).1 (TX11 17).2.1 (TX11 17).2.2.1 ∈ wsX11_onPlace := by decide +kernel
theorem fl_X11_onPlace_163 : Cond.fieldLink RX11 163 (TX11 18).1 (TX11 18).2.1 (TX11 18).2.2.1 ∈ wsX11_onPlace := by decide +kernel
set_option maxHeartbeats 4000000 in
set_option maxRecDepth 100000 in
theorem c_X11_onPlace (l : Launch) (G : jG) (q : Nat → Nat) (t n co cr : Int32) (tx ty : Int64) (z0 z1 z2 z3 z4 z5 z6 z7 z8 z9 z10 z11 z12 z13 z14 z15 : Int) (sf : Nat → Int32) (hS : okS [z0, z1, z2, z3, z4, z5, z6, z7, z8, z9, z10, z11, z12, z13, z14, z15] sf) (sig : Nat → Int32) (x y : Int64) : Ct l yX11_onPlace wsX11_onPlace rm_X11_onPlace G [.ref (q 0), .long x, .long y] [(q 0, .inr (10, mF t n q co cr 0 tx ty)), (q 10, aI G 320 (rg [z0, z1, z2, z3, z4, z5, z6, z7, z8, z9, z10, z11, z12, z13, z14, z15])), (q 11, aZ G 16 sf), (q 12, aI G 2 sig)] (S := Int × Int × Int × Int × (Nat → Int32)) (fun r u => r = none ∧ u.1 = x.toInt ∧ u.2.1 = y.toInt ∧ u.2.2.1 = 0 ∧ u.2.2.2.1 = 1 ∧ okS [u.1, u.2.1, u.2.2.1, u.2.2.2.1, z4, z5, z6, z7, z8, z9, z10, z11, z12, z13, z14, z15] u.2.2.2.2) (fun u => [(q 0, .inr (10, mF t n q co cr 1 0 0)), (q 10, aI G 320 (rg [u.1, u.2.1, u.2.2.1, u.2.2.2.1, z4, z5, z6, z7, z8, z9, z10, z11, z12, z13, z14, z15])), (q 11, aZ G 16 u.2.2.2.2), (q 12, aI G 2 (upd sig 0 0))]) (fun _ => []) := by
  refine c_intro (cc := cX11_onPlace) (maxL := 5) (ret := none) (by decide) rfl (Nat.le_of_ble_eq_true rfl) (fun _ => by simp only [List.map_cons, List.map_nil]) ?_
  intro p e s m args below meth c Q A X hr hin E
  change J p l e rm_X11_onPlace s m args below meth c Q G A 5 0 0 0 [(0, .ref (q 0)), (1, .long x), (3, .long y)] [] [(q 0, .inr (10, mF t n q co cr 0 tx ty)), (q 10, aI G 320 (rg [z0, z1, z2, z3, z4, z5, z6, z7, z8, z9, z10, z11, z12, z13, z14, z15])), (q 11, aZ G 16 sf), (q 12, aI G 2 sig)]
  refine j_aload_n X dX11_onPlace_0 rfl 0 rfl ?_
  refine j_iconst (v := 0) X dX11_onPlace_1 rfl ?_
  refine j_lload_n X dX11_onPlace_2 rfl 1 rfl ?_
  obtain ⟨y_1, ey_1⟩ : ∃ zz9 : Int, zz9 = x.toInt := ⟨_, rfl⟩
  have by_1 : bd 63 y_1 := by rw [ey_1]; exact (bd_l x)
  refine j_callV X dX11_onPlace_3 (n_load l G q t n co cr 0 tx ty [z0, z1, z2, z3, z4, z5, z6, z7, z8, z9, z10, z11, z12, z13, z14, z15] sf rfl hS 0 0 rfl (by decide) x y_1 ey_1) gX11_onPlace_X11_load rfl hy_X11_load_V ⟨Nat.le_of_ble_eq_true rfl, Nat.le_of_ble_eq_true rfl⟩ 0 rfl rfl [0, 1, 2] rfl (by decide) rfl rfl (Nat.le_of_ble_eq_true rfl) ⟨Nat.le_of_ble_eq_true rfl, Nat.le_of_ble_eq_true rfl⟩ ?_
  rintro _ sf_2 ⟨rfl, hS_sf_2⟩
  change J p l e rm_X11_onPlace s m args below meth c Q G A 5 0 0 6 [(0, .ref (q 0)), (1, .long x), (3, .long y)] [] [(q 0, .inr (10, mF t n q co cr 0 tx ty)), (q 10, aI G 320 (rg [y_1, z1, z2, z3, z4, z5, z6, z7, z8, z9, z10, z11, z12, z13, z14, z15])), (q 11, aZ G 16 sf_2), (q 12, aI G 2 sig)]
  refine j_aload_n X dX11_onPlace_6 rfl 0 rfl ?_
  refine j_iconst (v := 1) X dX11_onPlace_7 rfl ?_
  refine j_lload_n X dX11_onPlace_8 rfl 2 rfl ?_
  obtain ⟨y_3, ey_3⟩ : ∃ zz9 : Int, zz9 = y.toInt := ⟨_, rfl⟩
  have by_3 : bd 63 y_3 := by rw [ey_3]; exact (bd_l y)
  refine j_callV X dX11_onPlace_9 (n_load l G q t n co cr 0 tx ty [y_1, z1, z2, z3, z4, z5, z6, z7, z8, z9, z10, z11, z12, z13, z14, z15] sf_2 rfl hS_sf_2 1 1 rfl (by decide) y y_3 ey_3) gX11_onPlace_X11_load rfl hy_X11_load_V ⟨Nat.le_of_ble_eq_true rfl, Nat.le_of_ble_eq_true rfl⟩ 0 rfl rfl [0, 1, 2] rfl (by decide) rfl rfl (Nat.le_of_ble_eq_true rfl) ⟨Nat.le_of_ble_eq_true rfl, Nat.le_of_ble_eq_true rfl⟩ ?_
  rintro _ sf_4 ⟨rfl, hS_sf_4⟩
  change J p l e rm_X11_onPlace s m args below meth c Q G A 5 0 0 12 [(0, .ref (q 0)), (1, .long x), (3, .long y)] [] [(q 0, .inr (10, mF t n q co cr 0 tx ty)), (q 10, aI G 320 (rg [y_1, y_3, z2, z3, z4, z5, z6, z7, z8, z9, z10, z11, z12, z13, z14, z15])), (q 11, aZ G 16 sf_4), (q 12, aI G 2 sig)]
  refine j_aload_n X dX11_onPlace_12 rfl 0 rfl ?_
  refine j_iconst (v := 2) X dX11_onPlace_13 rfl ?_
  refine j_lconst (v := 0) X dX11_onPlace_14 rfl ?_
  obtain ⟨y_5, ey_5⟩ : ∃ zz9 : Int, zz9 = 0 := ⟨_, rfl⟩
  have by_5 : bd 1 y_5 := by rw [ey_5]; exact (by decide : Int.natAbs 0 ≤ 2 ^ 1)
  refine j_callV X dX11_onPlace_15 (n_load l G q t n co cr 0 tx ty [y_1, y_3, z2, z3, z4, z5, z6, z7, z8, z9, z10, z11, z12, z13, z14, z15] sf_4 rfl hS_sf_4 2 2 rfl (by decide) 0 y_5 (by rw [ey_5]; rfl)) gX11_onPlace_X11_load rfl hy_X11_load_V ⟨Nat.le_of_ble_eq_true rfl, Nat.le_of_ble_eq_true rfl⟩ 0 rfl rfl [0, 1, 2] rfl (by decide) rfl rfl (Nat.le_of_ble_eq_true rfl) ⟨Nat.le_of_ble_eq_true rfl, Nat.le_of_ble_eq_true rfl⟩ ?_
  rintro _ sf_6 ⟨rfl, hS_sf_6⟩
  change J p l e rm_X11_onPlace s m args below meth c Q G A 5 0 0 18 [(0, .ref (q 0)), (1, .long x), (3, .long y)] [] [(q 0, .inr (10, mF t n q co cr 0 tx ty)), (q 10, aI G 320 (rg [y_1, y_3, y_5, z3, z4, z5, z6, z7, z8, z9, z10, z11, z12, z13, z14, z15])), (q 11, aZ G 16 sf_6), (q 12, aI G 2 sig)]
  refine j_aload_n X dX11_onPlace_18 rfl 0 rfl ?_
  refine j_iconst (v := 3) X dX11_onPlace_19 rfl ?_
  refine j_lconst (v := 1) X dX11_onPlace_20 rfl ?_
  obtain ⟨y_7, ey_7⟩ : ∃ zz9 : Int, zz9 = 1 := ⟨_, rfl⟩
  have by_7 : bd 1 y_7 := by rw [ey_7]; exact (by decide : Int.natAbs 1 ≤ 2 ^ 1)
  refine j_callV X dX11_onPlace_21 (n_load l G q t n co cr 0 tx ty [y_1, y_3, y_5, z3, z4, z5, z6, z7, z8, z9, z10, z11, z12, z13, z14, z15] sf_6 rfl hS_sf_6 3 3 rfl (by decide) 1 y_7 (by rw [ey_7]; rfl)) gX11_onPlace_X11_load rfl hy_X11_load_V ⟨Nat.le_of_ble_eq_true rfl, Nat.le_of_ble_eq_true rfl⟩ 0 rfl rfl [0, 1, 2] rfl (by decide) rfl rfl (Nat.le_of_ble_eq_true rfl) ⟨Nat.le_of_ble_eq_true rfl, Nat.le_of_ble_eq_true rfl⟩ ?_
  rintro _ sf_8 ⟨rfl, hS_sf_8⟩
  change J p l e rm_X11_onPlace s m args below meth c Q G A 5 0 0 24 [(0, .ref (q 0)), (1, .long x), (3, .long y)] [] [(q 0, .inr (10, mF t n q co cr 0 tx ty)), (q 10, aI G 320 (rg [y_1, y_3, y_5, y_7, z4, z5, z6, z7, z8, z9, z10, z11, z12, z13, z14, z15])), (q 11, aZ G 16 sf_8), (q 12, aI G 2 sig)]
  refine j_aload_n X dX11_onPlace_24 rfl 0 rfl ?_
  refine j_lconst (v := 0) X dX11_onPlace_25 rfl ?_
  refine j_put (ws' := [(q 0, .inr (10, mF t n q co cr 0 0 ty)), (q 10, aI G 320 (rg [y_1, y_3, y_5, y_7, z4, z5, z6, z7, z8, z9, z10, z11, z12, z13, z14, z15])), (q 11, aZ G 16 sf_8), (q 12, aI G 2 sig)]) X dX11_onPlace_26 0 rfl 17 rfl in_X11_onPlace_X11 tyX11 tyX11_ok nmX11 (by decide) fl_X11_onPlace_159 rfl rfl rfl rfl (Nat.le_of_ble_eq_true rfl) rfl ?_
  refine j_aload_n X dX11_onPlace_29 rfl 0 rfl ?_
  refine j_lconst (v := 0) X dX11_onPlace_30 rfl ?_
  refine j_put (ws' := [(q 0, .inr (10, mF t n q co cr 0 0 0)), (q 10, aI G 320 (rg [y_1, y_3, y_5, y_7, z4, z5, z6, z7, z8, z9, z10, z11, z12, z13, z14, z15])), (q 11, aZ G 16 sf_8), (q 12, aI G 2 sig)]) X dX11_onPlace_31 0 rfl 18 rfl in_X11_onPlace_X11 tyX11 tyX11_ok nmX11 (by decide) fl_X11_onPlace_163 rfl rfl rfl rfl (Nat.le_of_ble_eq_true rfl) rfl ?_
  refine j_aload_n X dX11_onPlace_34 rfl 0 rfl ?_
  refine j_iconst (v := 0) X dX11_onPlace_35 rfl ?_
  refine j_callV X dX11_onPlace_36 (c_X11_pointWith_0 l G q t n co cr 0 0 sig 0) gX11_onPlace_X11_pointWith rfl hy_X11_pointWith_V ⟨Nat.le_of_ble_eq_true rfl, Nat.le_of_ble_eq_true rfl⟩ 0 rfl rfl [0, 3] rfl (by decide) rfl rfl (Nat.le_of_ble_eq_true rfl) ⟨Nat.le_of_ble_eq_true rfl, Nat.le_of_ble_eq_true rfl⟩ ?_
  rintro _ ⟨⟩ rfl
  change J p l e rm_X11_onPlace s m args below meth c Q G A 5 0 0 39 [(0, .ref (q 0)), (1, .long x), (3, .long y)] [] [(q 0, .inr (10, mF t n q co cr 1 0 0)), (q 10, aI G 320 (rg [y_1, y_3, y_5, y_7, z4, z5, z6, z7, z8, z9, z10, z11, z12, z13, z14, z15])), (q 11, aZ G 16 sf_8), (q 12, aI G 2 (upd sig 0 0))]
  exact E.1 39 _ (y_1, y_3, y_5, y_7, sf_8) dX11_onPlace_39 (⟨rfl, ey_1, ey_3, ey_5, ey_7, hS_sf_8⟩) hr

theorem hy_X11_onPlace_V : yX11_onPlace.cls = RX11 ∧ yX11_onPlace.cls ≠ "java/lang/invoke/MethodHandle" ∧ yX11_onPlace.cls ≠ "java/lang/invoke/VarHandle" ∧ (parseMethodDescriptor yX11_onPlace.desc).map (fun d => d.parameters.length) = some 2 := by decide +kernel
abbrev rm_X11_crossAlong : Room := { frames := 6, cells := 0, slots := 0, locals := 166 }
theorem in_X11_crossAlong_X11 : ∀ w ∈ u_ws RX11 TX11 19, w ∈ wsX11_crossAlong := by decide +kernel
theorem fl_X11_crossAlong_13 : Cond.fieldLink RX11 13 (TX11 3).1 (TX11 3).2.1 (TX11 3).2.2.1 ∈ wsX11_crossAlong := by decide +kernel
theorem fl_X11_crossAlong_17 : Cond.fieldLink RX11 17 (TX11 4).1 (TX11 4).2.1 (TX11 4).2.2.1 ∈ wsX11_crossAlong := by decide +kernel
theorem fl_X11_crossAlong_20 : Cond.fieldLink RX11 20 (TX11 5).1 (TX11 5).2.1 (TX11 5).2.2.1 ∈ wsX11_crossAlong := by decide +kernel
theorem fl_X11_crossAlong_23 : Cond.fieldLink RX11 23 (TX11 6).1 (TX11 6).2.1 (TX11 6).2.2.1 ∈ wsX11_crossAlong := by decide +kernel
set_option maxHeartbeats 4000000 in
set_option maxRecDepth 100000 in
theorem c_X11_crossAlong (l : Launch) (G : jG) (q : Nat → Nat) (t n co cr : Int32) (tx ty : Int64) (zs : List Int) (hl : zs.length = 16) (sf : Nat → Int32) (hS : okS zs sf) (sig : Nat → Int32) (f1 f2 f3 f4 : Nat → Int64) (a b : Nat) (ba : (inC (f1 a).toInt ∧ inC (f2 a).toInt) ∧ inC (f3 a).toInt ∧ inC (f4 a).toInt) (ga : a < 200) (bb : (inC (f1 b).toInt ∧ inC (f2 b).toInt) ∧ inC (f3 b).toInt ∧ inC (f4 b).toInt) (gb : b < 200) : Ct l yX11_crossAlong wsX11_crossAlong rm_X11_crossAlong G [.ref (q 0), .int (nI a), .int (nI b)] [(q 0, .inr (10, mF t n q co cr 0 tx ty)), (q 2, aJ G 200 f1), (q 3, aJ G 200 f2), (q 4, aJ G 200 f3), (q 5, aJ G 200 f4), (q 10, aI G 320 (rg zs)), (q 11, aZ G 16 sf), (q 12, aI G 2 sig)] (S := Int32 × (Nat → Int32) × Int64 × Int64 × List Int × (Nat → Int32)) (fun r u => ∃ o, xal (hiP (f1 a).toInt (f2 a).toInt (f3 a).toInt (f4 a).toInt (f1 b).toInt (f2 b).toInt (f3 b).toInt (f4 b).toInt) (hiX (f1 a).toInt (f3 a).toInt (f1 b).toInt (f3 b).toInt) (hiX (f2 a).toInt (f4 a).toInt (f2 b).toInt (f4 b).toInt) o ∧ ((o = none ∧ r = some (.int 0) ∧ u.1 = 0 ∧ u.2.2.2.2.1.length = 16 ∧ okS u.2.2.2.2.1 u.2.2.2.2.2) ∨ (∃ v, o = some v ∧ r = some (.int 1) ∧ xG (v) u.1 u.2.1 u.2.2.1 u.2.2.2.1 u.2.2.2.2.1 ∧ u.2.2.2.2.1.length = 16 ∧ okS u.2.2.2.2.1 u.2.2.2.2.2))) (fun u => [(q 0, .inr (10, mF t n q co cr u.1 u.2.2.1 u.2.2.2.1)), (q 2, aJ G 200 f1), (q 3, aJ G 200 f2), (q 4, aJ G 200 f3), (q 5, aJ G 200 f4), (q 10, aI G 320 (rg u.2.2.2.2.1)), (q 11, aZ G 16 u.2.2.2.2.2), (q 12, aI G 2 u.2.1)]) (fun _ => []) := by
  refine c_intro (cc := cX11_crossAlong) (maxL := 16) (ret := (some .boolean)) (by decide) rfl (Nat.le_of_ble_eq_true rfl) (fun _ => by simp only [List.map_cons, List.map_nil]) ?_
  intro p e s m args below meth c Q A X hr hin E
  change J p l e rm_X11_crossAlong s m args below meth c Q G A 16 0 0 0 [(0, .ref (q 0)), (1, .int (nI a)), (2, .int (nI b))] [] [(q 0, .inr (10, mF t n q co cr 0 tx ty)), (q 2, aJ G 200 f1), (q 3, aJ G 200 f2), (q 4, aJ G 200 f3), (q 5, aJ G 200 f4), (q 10, aI G 320 (rg zs)), (q 11, aZ G 16 sf), (q 12, aI G 2 sig)]
  obtain ⟨z0, z1, z2, z3, z4, z5, z6, z7, z8, z9, z10, z11, z12, z13, z14, z15, rfl⟩ := l16 hl
  refine j_iconst (v := 0) X dX11_crossAlong_0 rfl ?_
  refine j_istore_n (L' := [(3, .int 0), (0, .ref (q 0)), (1, .int (nI a)), (2, .int (nI b))]) X dX11_crossAlong_1 rfl (by decide) rfl ?_
  refine j_lconst (v := 0) X dX11_crossAlong_2 rfl ?_
  refine j_lstore (L' := [(4, .long 0), (3, .int 0), (0, .ref (q 0)), (1, .int (nI a)), (2, .int (nI b))]) X dX11_crossAlong_3 (by decide) rfl ?_
  refine j_lconst (v := 0) X dX11_crossAlong_5 rfl ?_
  refine j_lstore (L' := [(6, .long 0), (4, .long 0), (3, .int 0), (0, .ref (q 0)), (1, .int (nI a)), (2, .int (nI b))]) X dX11_crossAlong_6 (by decide) rfl ?_
  refine j_iconst (v := 0) X dX11_crossAlong_8 rfl ?_
  refine j_istore (L' := [(8, .int 0), (6, .long 0), (4, .long 0), (3, .int 0), (0, .ref (q 0)), (1, .int (nI a)), (2, .int (nI b))]) X dX11_crossAlong_9 (by decide) rfl ?_
  refine j_iconst (v := 0) X dX11_crossAlong_11 rfl ?_
  refine j_istore (L' := [(9, .int 0), (8, .int 0), (6, .long 0), (4, .long 0), (3, .int 0), (0, .ref (q 0)), (1, .int (nI a)), (2, .int (nI b))]) X dX11_crossAlong_12 (by decide) rfl ?_
  have loop : ∀ (d : Nat) (k mm : Nat) (x y : Int64) (o : Int32) (a4 a5 a6 a7 a8 a9 a10 a11 a12 a13 a14 a15 : Int) (s2 : Nat → Int32) (hk : k ≤ 4) (hm : mm ≤ k) (hI : alI (hiP (f1 a).toInt (f2 a).toInt (f3 a).toInt (f4 a).toInt (f1 b).toInt (f2 b).toInt (f3 b).toInt (f4 b).toInt) (hiX (f1 a).toInt (f3 a).toInt (f1 b).toInt (f3 b).toInt) (hiX (f2 a).toInt (f4 a).toInt (f2 b).toInt (f4 b).toInt) k mm x.toInt y.toInt o) (hS2 : okS [z0, z1, z2, z3, a4, a5, a6, a7, a8, a9, a10, a11, a12, a13, a14, a15] s2), 4 - k < d → J p l e rm_X11_crossAlong s m args below meth c Q G A 16 0 0 14 [(0, .ref (q 0)), (1, .int (nI a)), (2, .int (nI b)), (3, .int (nI mm)), (4, .long x), (6, .long y), (8, .int o), (9, .int (nI k))] [] [(q 0, .inr (10, mF t n q co cr 0 tx ty)), (q 2, aJ G 200 f1), (q 3, aJ G 200 f2), (q 4, aJ G 200 f3), (q 5, aJ G 200 f4), (q 10, aI G 320 (rg [z0, z1, z2, z3, a4, a5, a6, a7, a8, a9, a10, a11, a12, a13, a14, a15])), (q 11, aZ G 16 s2), (q 12, aI G 2 sig)] := by
    intro d
    induction d with
    | zero => intro k mm x y o a4 a5 a6 a7 a8 a9 a10 a11 a12 a13 a14 a15 s2 hk hm hI hS2 hd0; exact absurd hd0 (Nat.not_lt_zero _)
    | succ d ih =>
      intro k mm x y o a4 a5 a6 a7 a8 a9 a10 a11 a12 a13 a14 a15 s2 hk hm hI hS2 hd0
      refine j_iload X dX11_crossAlong_14 7 rfl ?_
      refine j_iconst (v := 4) X dX11_crossAlong_16 rfl ?_
      refine j_icmp_ge (tgt := 165) X dX11_crossAlong_17 (by decide) (fun c_17 => ?_) (fun c_17 => ?_)
      · skip
        first | simp only [bI_0, Decidable.not_not, sg_mul, sg_e0, sg_l0, sg_g0, sg_le0, sg_ge0, cmp_eq, cmp_lt, cmp_ge, cmp_gt, cmp_le, lT0, lT1] at c_17 | simp only [Int32.le_iff_toInt_le, Int32.lt_iff_toInt_lt, ← Int32.toInt_inj, iT0, iT1, iT2, iT3, iT4, iT5, iT6, iT7, iT8, iT9, iT10, iT11, iT12, iT13, iT14, iT15, iT16, iT19, iT20, iT31, iT32, iT42, iT64, iT200, iT318, iT319, iT1000, iTm1, iTm2] at c_17 | skip
        rw [nI_T (by omega)] at c_17
        refine j_iload_n X dX11_crossAlong_165 rfl 3 rfl ?_
        refine j_if_le (tgt := 182) X dX11_crossAlong_166 (by decide) (fun c_166 => ?_) (fun c_166 => ?_)
        · skip
          first | simp only [bI_0, Decidable.not_not, sg_mul, sg_e0, sg_l0, sg_g0, sg_le0, sg_ge0, cmp_eq, cmp_lt, cmp_ge, cmp_gt, cmp_le, lT0, lT1] at c_166 | simp only [Int32.le_iff_toInt_le, Int32.lt_iff_toInt_lt, ← Int32.toInt_inj, iT0, iT1, iT2, iT3, iT4, iT5, iT6, iT7, iT8, iT9, iT10, iT11, iT12, iT13, iT14, iT15, iT16, iT19, iT20, iT31, iT32, iT42, iT64, iT200, iT318, iT319, iT1000, iTm1, iTm2] at c_166 | skip
          rw [nI_T (by omega)] at c_166
          have ho := (al_n hI (by omega)).2
          refine j_iload X dX11_crossAlong_182 6 rfl ?_
          refine j_if_ne (tgt := 191) X dX11_crossAlong_184 (by decide) (fun c_184 => ?_) (fun c_184 => ?_)
          · skip
            exact absurd ho c_184
          · skip
            refine j_iconst (v := 1) X dX11_crossAlong_187 rfl ?_
            refine j_goto (tgt := 192) X dX11_crossAlong_188 (by decide) ?_
            have h4 : k = 4 := by omega
            exact E.2.1 192 _ 1 (0, sig, tx, ty, [z0, z1, z2, z3, a4, a5, a6, a7, a8, a9, a10, a11, a12, a13, a14, a15], s2) _ dX11_crossAlong_192 (⟨some ([], 0, 0, 0, 0, 0, 0), Or.inr (Or.inl ⟨rfl, al_x0 h4 hI (by omega)⟩), Or.inr ⟨_, rfl, rfl, xG_0, rfl, hS2⟩⟩) hr rfl
        · skip
          first | simp only [bI_0, Decidable.not_not, sg_mul, sg_e0, sg_l0, sg_g0, sg_le0, sg_ge0, cmp_eq, cmp_lt, cmp_ge, cmp_gt, cmp_le, lT0, lT1] at c_166 | simp only [Int32.le_iff_toInt_le, Int32.lt_iff_toInt_lt, ← Int32.toInt_inj, iT0, iT1, iT2, iT3, iT4, iT5, iT6, iT7, iT8, iT9, iT10, iT11, iT12, iT13, iT14, iT15, iT16, iT19, iT20, iT31, iT32, iT42, iT64, iT200, iT318, iT319, iT1000, iTm1, iTm2] at c_166 | skip
          rw [nI_T (by omega)] at c_166
          have hm0 : 0 < mm := by omega
          refine j_iload X dX11_crossAlong_169 6 rfl ?_
          refine j_if_ne (tgt := 182) X dX11_crossAlong_171 (by decide) (fun c_171 => ?_) (fun c_171 => ?_)
          · skip
            refine j_iload X dX11_crossAlong_182 6 rfl ?_
            refine j_if_ne (tgt := 191) X dX11_crossAlong_184 (by decide) (fun c_184 => ?_) (fun c_184 => ?_)
            · skip
              refine j_iconst (v := 0) X dX11_crossAlong_191 rfl ?_
              have h4 : k = 4 := by omega
              exact E.2.1 192 _ 0 (0, sig, tx, ty, [z0, z1, z2, z3, a4, a5, a6, a7, a8, a9, a10, a11, a12, a13, a14, a15], s2) _ dX11_crossAlong_192 (⟨none, Or.inl ⟨rfl, al_xn h4 hI c_184⟩, Or.inl ⟨rfl, rfl, rfl, rfl, hS2⟩⟩) hr rfl
            · skip
              exact absurd c_184 c_171
          · skip
            refine j_aload_n X dX11_crossAlong_174 rfl 0 rfl ?_
            refine j_lload X dX11_crossAlong_175 4 rfl ?_
            refine j_lload X dX11_crossAlong_177 5 rfl ?_
            refine j_callV X dX11_crossAlong_179 (c_X11_onPlace l G q t n co cr tx ty z0 z1 z2 z3 a4 a5 a6 a7 a8 a9 a10 a11 a12 a13 a14 a15 s2 hS2 sig x y) gX11_crossAlong_X11_onPlace rfl hy_X11_onPlace_V ⟨Nat.le_of_ble_eq_true rfl, Nat.le_of_ble_eq_true rfl⟩ 0 rfl rfl [0, 5, 6, 7] rfl (by decide) rfl rfl (Nat.le_of_ble_eq_true rfl) ⟨Nat.le_of_ble_eq_true rfl, Nat.le_of_ble_eq_true rfl⟩ ?_
            rintro _ ⟨y_2, y_3, y_4, y_5, sf_1⟩ ⟨rfl, ey_2, ey_3, ey_4, ey_5, hS_sf_1⟩
            dsimp only at ey_2 ey_3 ey_4 ey_5 hS_sf_1
            change J p l e rm_X11_crossAlong s m args below meth c Q G A 16 0 0 182 [(0, .ref (q 0)), (1, .int (nI a)), (2, .int (nI b)), (3, .int (nI mm)), (4, .long x), (6, .long y), (8, .int o), (9, .int (nI k))] [] [(q 0, .inr (10, mF t n q co cr 1 0 0)), (q 2, aJ G 200 f1), (q 3, aJ G 200 f2), (q 4, aJ G 200 f3), (q 5, aJ G 200 f4), (q 10, aI G 320 (rg [y_2, y_3, y_4, y_5, a4, a5, a6, a7, a8, a9, a10, a11, a12, a13, a14, a15])), (q 11, aZ G 16 sf_1), (q 12, aI G 2 (upd sig 0 0))]
            refine j_iload X dX11_crossAlong_182 6 rfl ?_
            refine j_if_ne (tgt := 191) X dX11_crossAlong_184 (by decide) (fun c_184 => ?_) (fun c_184 => ?_)
            · skip
              exact absurd c_171 c_184
            · skip
              refine j_iconst (v := 1) X dX11_crossAlong_187 rfl ?_
              refine j_goto (tgt := 192) X dX11_crossAlong_188 (by decide) ?_
              have h4 : k = 4 := by omega
              obtain ⟨j, j1, j2, j3, j4, j5⟩ := al_x1 h4 hI c_171 hm0
              exact E.2.1 192 _ 1 (1, upd sig 0 0, 0, 0, [y_2, y_3, y_4, y_5, a4, a5, a6, a7, a8, a9, a10, a11, a12, a13, a14, a15], sf_1) _ dX11_crossAlong_192 (⟨some ([0], _, _, 0, 1, 0, 0), Or.inr (Or.inr ⟨j, j1, j2, rfl, j5⟩), Or.inr ⟨_, rfl, rfl, ⟨rfl, sgL_1 _ _, fun _ => ⟨⟨ey_2.trans j3.symm, ey_3.trans j4.symm, ey_4, ey_5⟩, rfl, rfl⟩⟩, rfl, hS_sf_1⟩⟩) hr rfl
      · skip
        first | simp only [bI_0, Decidable.not_not, sg_mul, sg_e0, sg_l0, sg_g0, sg_le0, sg_ge0, cmp_eq, cmp_lt, cmp_ge, cmp_gt, cmp_le, lT0, lT1] at c_17 | simp only [Int32.le_iff_toInt_le, Int32.lt_iff_toInt_lt, ← Int32.toInt_inj, iT0, iT1, iT2, iT3, iT4, iT5, iT6, iT7, iT8, iT9, iT10, iT11, iT12, iT13, iT14, iT15, iT16, iT19, iT20, iT31, iT32, iT42, iT64, iT200, iT318, iT319, iT1000, iTm1, iTm2] at c_17 | skip
        rw [nI_T (by omega)] at c_17
        have hk4 : k = 0 ∨ k = 1 ∨ k = 2 ∨ k = 3 := by omega
        rcases hk4 with rfl | rfl | rfl | rfl
        · skip
          change J p l e rm_X11_crossAlong s m args below meth c Q G A 16 0 0 20 [(0, .ref (q 0)), (1, .int (nI a)), (2, .int (nI b)), (3, .int (nI mm)), (4, .long x), (6, .long y), (8, .int o), (9, .int 0)] [] [(q 0, .inr (10, mF t n q co cr 0 tx ty)), (q 2, aJ G 200 f1), (q 3, aJ G 200 f2), (q 4, aJ G 200 f3), (q 5, aJ G 200 f4), (q 10, aI G 320 (rg [z0, z1, z2, z3, a4, a5, a6, a7, a8, a9, a10, a11, a12, a13, a14, a15])), (q 11, aZ G 16 s2), (q 12, aI G 2 sig)]
          refine j_iload X dX11_crossAlong_20 7 rfl ?_
          refine j_iconst (v := 2) X dX11_crossAlong_22 rfl ?_
          refine j_icmp_ge (tgt := 30) X dX11_crossAlong_23 (by decide) (fun c9 => absurd c9 (by decide)) (fun _ => ?_)
          refine j_iload_n X dX11_crossAlong_26 rfl 1 rfl ?_
          refine j_goto (tgt := 31) X dX11_crossAlong_27 (by decide) ?_
          refine j_istore (L' := [(10, .int (nI a)), (0, .ref (q 0)), (1, .int (nI a)), (2, .int (nI b)), (3, .int (nI mm)), (4, .long x), (6, .long y), (8, .int o), (9, .int 0)]) X dX11_crossAlong_31 (by decide) rfl ?_
          refine j_iload X dX11_crossAlong_33 8 rfl ?_
          refine j_iconst (v := 2) X dX11_crossAlong_35 rfl ?_
          refine j_icmp_ge (tgt := 43) X dX11_crossAlong_36 (by decide) (fun c9 => absurd c9 (by decide)) (fun _ => ?_)
          refine j_iload_n X dX11_crossAlong_39 rfl 3 rfl ?_
          refine j_goto (tgt := 44) X dX11_crossAlong_40 (by decide) ?_
          refine j_istore (L' := [(11, .int (nI b)), (10, .int (nI a)), (0, .ref (q 0)), (1, .int (nI a)), (2, .int (nI b)), (3, .int (nI mm)), (4, .long x), (6, .long y), (8, .int o), (9, .int 0)]) X dX11_crossAlong_44 (by decide) rfl ?_
          refine j_aload_n X dX11_crossAlong_46 rfl 2 rfl ?_
          refine j_iload X dX11_crossAlong_47 1 rfl ?_
          refine j_iload X dX11_crossAlong_49 0 rfl ?_
          refine j_iload X dX11_crossAlong_51 9 rfl ?_
          refine j_iconst (v := 2) X dX11_crossAlong_53 rfl ?_
          refine j_irem X dX11_crossAlong_54 (by decide) ?_
          rw [show (0 : Int32) - 0 / 2 * 2 = 0 from by decide]
          refine j_callV X dX11_crossAlong_55 (c_X11_hasEnd_0 l G q t n co cr 0 tx ty [z0, z1, z2, z3, a4, a5, a6, a7, a8, a9, a10, a11, a12, a13, a14, a15] rfl s2 hS2 f1 f2 f3 f4 a b ba ga bb gb) gX11_crossAlong_X11_hasEnd rfl hy_X11_hasEnd_V ⟨Nat.le_of_ble_eq_true rfl, Nat.le_of_ble_eq_true rfl⟩ 0 rfl rfl [0, 1, 2, 3, 4, 5, 6] rfl (by decide) rfl rfl (Nat.le_of_ble_eq_true rfl) ⟨Nat.le_of_ble_eq_true rfl, Nat.le_of_ble_eq_true rfl⟩ ?_
          rintro _ ⟨zs_7, sf_6⟩ ⟨rfl, hk_sf_6, hS_sf_6⟩
          obtain ⟨y4_sf_6, y5_sf_6, y6_sf_6, y7_sf_6, y8_sf_6, y9_sf_6, y10_sf_6, y11_sf_6, y12_sf_6, y13_sf_6, y14_sf_6, y15_sf_6, rfl⟩ := kp_4 hk_sf_6
          change J p l e rm_X11_crossAlong s m args below meth c Q G A 16 0 0 58 [(11, .int (nI b)), (10, .int (nI a)), (0, .ref (q 0)), (1, .int (nI a)), (2, .int (nI b)), (3, .int (nI mm)), (4, .long x), (6, .long y), (8, .int o), (9, .int 0)] [.int (bI (onS (f1 a).toInt (f2 a).toInt (f3 a).toInt (f4 a).toInt (f1 b).toInt (f2 b).toInt))] [(q 0, .inr (10, mF t n q co cr 0 tx ty)), (q 2, aJ G 200 f1), (q 3, aJ G 200 f2), (q 4, aJ G 200 f3), (q 5, aJ G 200 f4), (q 10, aI G 320 (rg [z0, z1, z2, z3, y4_sf_6, y5_sf_6, y6_sf_6, y7_sf_6, y8_sf_6, y9_sf_6, y10_sf_6, y11_sf_6, y12_sf_6, y13_sf_6, y14_sf_6, y15_sf_6])), (q 11, aZ G 16 sf_6), (q 12, aI G 2 sig)]
          refine j_if_ne (tgt := 64) X dX11_crossAlong_58 (by decide) (fun c_58 => ?_) (fun c_58 => ?_)
          · skip
            first | simp only [bI_0, Decidable.not_not, sg_mul, sg_e0, sg_l0, sg_g0, sg_le0, sg_ge0, cmp_eq, cmp_lt, cmp_ge, cmp_gt, cmp_le, lT0, lT1] at c_58 | simp only [Int32.le_iff_toInt_le, Int32.lt_iff_toInt_lt, ← Int32.toInt_inj, iT0, iT1, iT2, iT3, iT4, iT5, iT6, iT7, iT8, iT9, iT10, iT11, iT12, iT13, iT14, iT15, iT16, iT19, iT20, iT31, iT32, iT42, iT64, iT200, iT318, iT319, iT1000, iTm1, iTm2] at c_58 | skip
            refine j_iload X dX11_crossAlong_64 9 rfl ?_
            refine j_iconst (v := 2) X dX11_crossAlong_66 rfl ?_
            refine j_irem X dX11_crossAlong_67 (by decide) ?_
            rw [show (0 : Int32) - 0 / 2 * 2 = 0 from by decide]
            refine j_if_ne (tgt := 81) X dX11_crossAlong_68 (by decide) (fun c9 => absurd c9 (by decide)) (fun _ => ?_)
            refine j_aload_n X dX11_crossAlong_71 rfl 2 rfl ?_
            refine j_get (v := .ref (q 2)) X dX11_crossAlong_72 0 rfl 3 rfl in_X11_crossAlong_X11 (by decide) fl_X11_crossAlong_13 rfl ?_
            refine j_iload X dX11_crossAlong_75 0 rfl ?_
            refine j_lald X dX11_crossAlong_77 1 rfl b rfl gb (by decide) ?_
            refine j_goto (tgt := 88) X dX11_crossAlong_78 (by decide) ?_
            refine j_lstore (L' := [(12, .long (f1 b)), (11, .int (nI b)), (10, .int (nI a)), (0, .ref (q 0)), (1, .int (nI a)), (2, .int (nI b)), (3, .int (nI mm)), (4, .long x), (6, .long y), (8, .int o), (9, .int 0)]) X dX11_crossAlong_88 (by decide) rfl ?_
            refine j_iload X dX11_crossAlong_90 10 rfl ?_
            refine j_iconst (v := 2) X dX11_crossAlong_92 rfl ?_
            refine j_irem X dX11_crossAlong_93 (by decide) ?_
            rw [show (0 : Int32) - 0 / 2 * 2 = 0 from by decide]
            refine j_if_ne (tgt := 107) X dX11_crossAlong_94 (by decide) (fun c9 => absurd c9 (by decide)) (fun _ => ?_)
            refine j_aload_n X dX11_crossAlong_97 rfl 3 rfl ?_
            refine j_get (v := .ref (q 3)) X dX11_crossAlong_98 0 rfl 4 rfl in_X11_crossAlong_X11 (by decide) fl_X11_crossAlong_17 rfl ?_
            refine j_iload X dX11_crossAlong_101 1 rfl ?_
            refine j_lald X dX11_crossAlong_103 2 rfl b rfl gb (by decide) ?_
            refine j_goto (tgt := 114) X dX11_crossAlong_104 (by decide) ?_
            refine j_lstore (L' := [(14, .long (f2 b)), (12, .long (f1 b)), (11, .int (nI b)), (10, .int (nI a)), (0, .ref (q 0)), (1, .int (nI a)), (2, .int (nI b)), (3, .int (nI mm)), (4, .long x), (6, .long y), (8, .int o), (9, .int 0)]) X dX11_crossAlong_114 (by decide) rfl ?_
            refine j_iload X dX11_crossAlong_116 10 rfl ?_
            refine j_if_ne (tgt := 141) X dX11_crossAlong_118 (by decide) (fun c_118 => ?_) (fun c_118 => ?_)
            · skip
              have ho1 : o = 1 := by rcases hI with h | h | h; exact absurd h.2.1 c_118; exact absurd h.2.1 c_118; exact h.2.1
              refine j_iconst (v := 1) X dX11_crossAlong_141 rfl ?_
              refine j_goto (tgt := 146) X dX11_crossAlong_142 (by decide) ?_
              refine j_istore (L' := [(8, .int 1), (14, .long (f2 b)), (12, .long (f1 b)), (11, .int (nI b)), (10, .int (nI a)), (0, .ref (q 0)), (1, .int (nI a)), (2, .int (nI b)), (3, .int (nI mm)), (4, .long x), (6, .long y), (9, .int 0)]) X dX11_crossAlong_146 (by decide) rfl ?_
              refine j_lload X dX11_crossAlong_148 2 rfl ?_
              refine j_lstore (L' := [(4, .long (f1 b)), (8, .int 1), (14, .long (f2 b)), (12, .long (f1 b)), (11, .int (nI b)), (10, .int (nI a)), (0, .ref (q 0)), (1, .int (nI a)), (2, .int (nI b)), (3, .int (nI mm)), (6, .long y), (9, .int 0)]) X dX11_crossAlong_150 (by decide) rfl ?_
              refine j_lload X dX11_crossAlong_152 2 rfl ?_
              refine j_lstore (L' := [(6, .long (f2 b)), (4, .long (f1 b)), (8, .int 1), (14, .long (f2 b)), (12, .long (f1 b)), (11, .int (nI b)), (10, .int (nI a)), (0, .ref (q 0)), (1, .int (nI a)), (2, .int (nI b)), (3, .int (nI mm)), (9, .int 0)]) X dX11_crossAlong_154 (by decide) rfl ?_
              refine j_iinc (v := nI (mm + 1)) (L' := [(3, .int (nI (mm + 1))), (6, .long (f2 b)), (4, .long (f1 b)), (8, .int 1), (14, .long (f2 b)), (12, .long (f1 b)), (11, .int (nI b)), (10, .int (nI a)), (0, .ref (q 0)), (1, .int (nI a)), (2, .int (nI b)), (9, .int 0)]) X dX11_crossAlong_156 10 rfl (nI_s (by omega)) (by decide) rfl ?_
              refine j_iinc (v := 1) (L' := [(9, .int 1), (3, .int (nI (mm + 1))), (6, .long (f2 b)), (4, .long (f1 b)), (8, .int 1), (14, .long (f2 b)), (12, .long (f1 b)), (11, .int (nI b)), (10, .int (nI a)), (0, .ref (q 0)), (1, .int (nI a)), (2, .int (nI b))]) X dX11_crossAlong_159 11 rfl (by decide) (by decide) rfl ?_
              refine j_goto (tgt := 14) X dX11_crossAlong_162 (by decide) ?_
              refine j_sub [9, 10, 11, 1, 3, 2, 4, 0] rfl ?_
              exact ih 1 (mm + 1) (f1 b) (f2 b) 1 y4_sf_6 y5_sf_6 y6_sf_6 y7_sf_6 y8_sf_6 y9_sf_6 y10_sf_6 y11_sf_6 y12_sf_6 y13_sf_6 y14_sf_6 y15_sf_6 sf_6 (by omega) (by omega) (al_o (ho1 ▸ hI)) hS_sf_6 (by omega)
            · skip
              have ho0 : o = 0 := c_118
              refine j_iload_n X dX11_crossAlong_121 rfl 7 rfl ?_
              refine j_if_le (tgt := 145) X dX11_crossAlong_122 (by decide) (fun c_122 => ?_) (fun c_122 => ?_)
              · skip
                first | simp only [bI_0, Decidable.not_not, sg_mul, sg_e0, sg_l0, sg_g0, sg_le0, sg_ge0, cmp_eq, cmp_lt, cmp_ge, cmp_gt, cmp_le, lT0, lT1] at c_122 | simp only [Int32.le_iff_toInt_le, Int32.lt_iff_toInt_lt, ← Int32.toInt_inj, iT0, iT1, iT2, iT3, iT4, iT5, iT6, iT7, iT8, iT9, iT10, iT11, iT12, iT13, iT14, iT15, iT16, iT19, iT20, iT31, iT32, iT42, iT64, iT200, iT318, iT319, iT1000, iTm1, iTm2] at c_122 | skip
                rw [nI_T (by omega)] at c_122
                have hI0 : mm = 0 := by omega
                refine j_iconst (v := 0) X dX11_crossAlong_145 rfl ?_
                refine j_istore (L' := [(8, .int 0), (14, .long (f2 b)), (12, .long (f1 b)), (11, .int (nI b)), (10, .int (nI a)), (0, .ref (q 0)), (1, .int (nI a)), (2, .int (nI b)), (3, .int (nI mm)), (4, .long x), (6, .long y), (9, .int 0)]) X dX11_crossAlong_146 (by decide) rfl ?_
                refine j_lload X dX11_crossAlong_148 2 rfl ?_
                refine j_lstore (L' := [(4, .long (f1 b)), (8, .int 0), (14, .long (f2 b)), (12, .long (f1 b)), (11, .int (nI b)), (10, .int (nI a)), (0, .ref (q 0)), (1, .int (nI a)), (2, .int (nI b)), (3, .int (nI mm)), (6, .long y), (9, .int 0)]) X dX11_crossAlong_150 (by decide) rfl ?_
                refine j_lload X dX11_crossAlong_152 2 rfl ?_
                refine j_lstore (L' := [(6, .long (f2 b)), (4, .long (f1 b)), (8, .int 0), (14, .long (f2 b)), (12, .long (f1 b)), (11, .int (nI b)), (10, .int (nI a)), (0, .ref (q 0)), (1, .int (nI a)), (2, .int (nI b)), (3, .int (nI mm)), (9, .int 0)]) X dX11_crossAlong_154 (by decide) rfl ?_
                refine j_iinc (v := nI (mm + 1)) (L' := [(3, .int (nI (mm + 1))), (6, .long (f2 b)), (4, .long (f1 b)), (8, .int 0), (14, .long (f2 b)), (12, .long (f1 b)), (11, .int (nI b)), (10, .int (nI a)), (0, .ref (q 0)), (1, .int (nI a)), (2, .int (nI b)), (9, .int 0)]) X dX11_crossAlong_156 10 rfl (nI_s (by omega)) (by decide) rfl ?_
                refine j_iinc (v := 1) (L' := [(9, .int 1), (3, .int (nI (mm + 1))), (6, .long (f2 b)), (4, .long (f1 b)), (8, .int 0), (14, .long (f2 b)), (12, .long (f1 b)), (11, .int (nI b)), (10, .int (nI a)), (0, .ref (q 0)), (1, .int (nI a)), (2, .int (nI b))]) X dX11_crossAlong_159 11 rfl (by decide) (by decide) rfl ?_
                refine j_goto (tgt := 14) X dX11_crossAlong_162 (by decide) ?_
                refine j_sub [9, 10, 11, 1, 3, 2, 4, 0] rfl ?_
                exact ih 1 (mm + 1) (f1 b) (f2 b) 0 y4_sf_6 y5_sf_6 y6_sf_6 y7_sf_6 y8_sf_6 y9_sf_6 y10_sf_6 y11_sf_6 y12_sf_6 y13_sf_6 y14_sf_6 y15_sf_6 sf_6 (by omega) (by omega) (al_f hI0 hI c_58) hS_sf_6 (by omega)
              · skip
                first | simp only [bI_0, Decidable.not_not, sg_mul, sg_e0, sg_l0, sg_g0, sg_le0, sg_ge0, cmp_eq, cmp_lt, cmp_ge, cmp_gt, cmp_le, lT0, lT1] at c_122 | simp only [Int32.le_iff_toInt_le, Int32.lt_iff_toInt_lt, ← Int32.toInt_inj, iT0, iT1, iT2, iT3, iT4, iT5, iT6, iT7, iT8, iT9, iT10, iT11, iT12, iT13, iT14, iT15, iT16, iT19, iT20, iT31, iT32, iT42, iT64, iT200, iT318, iT319, iT1000, iTm1, iTm2] at c_122 | skip
                rw [nI_T (by omega)] at c_122
                have hm0 : 0 < mm := by omega
                refine j_lload X dX11_crossAlong_125 1 rfl ?_
                refine j_lload X dX11_crossAlong_127 8 rfl ?_
                refine j_lcmp X dX11_crossAlong_129 ?_
                refine j_if_ne (tgt := 141) X dX11_crossAlong_130 (by decide) (fun c_130 => ?_) (fun c_130 => ?_)
                · skip
                  first | simp only [bI_0, Decidable.not_not, sg_mul, sg_e0, sg_l0, sg_g0, sg_le0, sg_ge0, cmp_eq, cmp_lt, cmp_ge, cmp_gt, cmp_le, lT0, lT1] at c_130 | simp only [Int32.le_iff_toInt_le, Int32.lt_iff_toInt_lt, ← Int32.toInt_inj, iT0, iT1, iT2, iT3, iT4, iT5, iT6, iT7, iT8, iT9, iT10, iT11, iT12, iT13, iT14, iT15, iT16, iT19, iT20, iT31, iT32, iT42, iT64, iT200, iT318, iT319, iT1000, iTm1, iTm2] at c_130 | skip
                  refine j_iconst (v := 1) X dX11_crossAlong_141 rfl ?_
                  refine j_goto (tgt := 146) X dX11_crossAlong_142 (by decide) ?_
                  refine j_istore (L' := [(8, .int 1), (14, .long (f2 b)), (12, .long (f1 b)), (11, .int (nI b)), (10, .int (nI a)), (0, .ref (q 0)), (1, .int (nI a)), (2, .int (nI b)), (3, .int (nI mm)), (4, .long x), (6, .long y), (9, .int 0)]) X dX11_crossAlong_146 (by decide) rfl ?_
                  refine j_lload X dX11_crossAlong_148 2 rfl ?_
                  refine j_lstore (L' := [(4, .long (f1 b)), (8, .int 1), (14, .long (f2 b)), (12, .long (f1 b)), (11, .int (nI b)), (10, .int (nI a)), (0, .ref (q 0)), (1, .int (nI a)), (2, .int (nI b)), (3, .int (nI mm)), (6, .long y), (9, .int 0)]) X dX11_crossAlong_150 (by decide) rfl ?_
                  refine j_lload X dX11_crossAlong_152 2 rfl ?_
                  refine j_lstore (L' := [(6, .long (f2 b)), (4, .long (f1 b)), (8, .int 1), (14, .long (f2 b)), (12, .long (f1 b)), (11, .int (nI b)), (10, .int (nI a)), (0, .ref (q 0)), (1, .int (nI a)), (2, .int (nI b)), (3, .int (nI mm)), (9, .int 0)]) X dX11_crossAlong_154 (by decide) rfl ?_
                  refine j_iinc (v := nI (mm + 1)) (L' := [(3, .int (nI (mm + 1))), (6, .long (f2 b)), (4, .long (f1 b)), (8, .int 1), (14, .long (f2 b)), (12, .long (f1 b)), (11, .int (nI b)), (10, .int (nI a)), (0, .ref (q 0)), (1, .int (nI a)), (2, .int (nI b)), (9, .int 0)]) X dX11_crossAlong_156 10 rfl (nI_s (by omega)) (by decide) rfl ?_
                  refine j_iinc (v := 1) (L' := [(9, .int 1), (3, .int (nI (mm + 1))), (6, .long (f2 b)), (4, .long (f1 b)), (8, .int 1), (14, .long (f2 b)), (12, .long (f1 b)), (11, .int (nI b)), (10, .int (nI a)), (0, .ref (q 0)), (1, .int (nI a)), (2, .int (nI b))]) X dX11_crossAlong_159 11 rfl (by decide) (by decide) rfl ?_
                  refine j_goto (tgt := 14) X dX11_crossAlong_162 (by decide) ?_
                  refine j_sub [9, 10, 11, 1, 3, 2, 4, 0] rfl ?_
                  exact ih 1 (mm + 1) (f1 b) (f2 b) 1 y4_sf_6 y5_sf_6 y6_sf_6 y7_sf_6 y8_sf_6 y9_sf_6 y10_sf_6 y11_sf_6 y12_sf_6 y13_sf_6 y14_sf_6 y15_sf_6 sf_6 (by omega) (by omega) (al_d hm0 (ho0 ▸ hI) c_58 (fun h => c_130 h.1)) hS_sf_6 (by omega)
                · skip
                  first | simp only [bI_0, Decidable.not_not, sg_mul, sg_e0, sg_l0, sg_g0, sg_le0, sg_ge0, cmp_eq, cmp_lt, cmp_ge, cmp_gt, cmp_le, lT0, lT1] at c_130 | simp only [Int32.le_iff_toInt_le, Int32.lt_iff_toInt_lt, ← Int32.toInt_inj, iT0, iT1, iT2, iT3, iT4, iT5, iT6, iT7, iT8, iT9, iT10, iT11, iT12, iT13, iT14, iT15, iT16, iT19, iT20, iT31, iT32, iT42, iT64, iT200, iT318, iT319, iT1000, iTm1, iTm2] at c_130 | skip
                  refine j_lload X dX11_crossAlong_133 0 rfl ?_
                  refine j_lload X dX11_crossAlong_135 9 rfl ?_
                  refine j_lcmp X dX11_crossAlong_137 ?_
                  refine j_if_eq (tgt := 145) X dX11_crossAlong_138 (by decide) (fun c_138 => ?_) (fun c_138 => ?_)
                  · skip
                    first | simp only [bI_0, Decidable.not_not, sg_mul, sg_e0, sg_l0, sg_g0, sg_le0, sg_ge0, cmp_eq, cmp_lt, cmp_ge, cmp_gt, cmp_le, lT0, lT1] at c_138 | simp only [Int32.le_iff_toInt_le, Int32.lt_iff_toInt_lt, ← Int32.toInt_inj, iT0, iT1, iT2, iT3, iT4, iT5, iT6, iT7, iT8, iT9, iT10, iT11, iT12, iT13, iT14, iT15, iT16, iT19, iT20, iT31, iT32, iT42, iT64, iT200, iT318, iT319, iT1000, iTm1, iTm2] at c_138 | skip
                    refine j_iconst (v := 0) X dX11_crossAlong_145 rfl ?_
                    refine j_istore (L' := [(8, .int 0), (14, .long (f2 b)), (12, .long (f1 b)), (11, .int (nI b)), (10, .int (nI a)), (0, .ref (q 0)), (1, .int (nI a)), (2, .int (nI b)), (3, .int (nI mm)), (4, .long x), (6, .long y), (9, .int 0)]) X dX11_crossAlong_146 (by decide) rfl ?_
                    refine j_lload X dX11_crossAlong_148 2 rfl ?_
                    refine j_lstore (L' := [(4, .long (f1 b)), (8, .int 0), (14, .long (f2 b)), (12, .long (f1 b)), (11, .int (nI b)), (10, .int (nI a)), (0, .ref (q 0)), (1, .int (nI a)), (2, .int (nI b)), (3, .int (nI mm)), (6, .long y), (9, .int 0)]) X dX11_crossAlong_150 (by decide) rfl ?_
                    refine j_lload X dX11_crossAlong_152 2 rfl ?_
                    refine j_lstore (L' := [(6, .long (f2 b)), (4, .long (f1 b)), (8, .int 0), (14, .long (f2 b)), (12, .long (f1 b)), (11, .int (nI b)), (10, .int (nI a)), (0, .ref (q 0)), (1, .int (nI a)), (2, .int (nI b)), (3, .int (nI mm)), (9, .int 0)]) X dX11_crossAlong_154 (by decide) rfl ?_
                    refine j_iinc (v := nI (mm + 1)) (L' := [(3, .int (nI (mm + 1))), (6, .long (f2 b)), (4, .long (f1 b)), (8, .int 0), (14, .long (f2 b)), (12, .long (f1 b)), (11, .int (nI b)), (10, .int (nI a)), (0, .ref (q 0)), (1, .int (nI a)), (2, .int (nI b)), (9, .int 0)]) X dX11_crossAlong_156 10 rfl (nI_s (by omega)) (by decide) rfl ?_
                    refine j_iinc (v := 1) (L' := [(9, .int 1), (3, .int (nI (mm + 1))), (6, .long (f2 b)), (4, .long (f1 b)), (8, .int 0), (14, .long (f2 b)), (12, .long (f1 b)), (11, .int (nI b)), (10, .int (nI a)), (0, .ref (q 0)), (1, .int (nI a)), (2, .int (nI b))]) X dX11_crossAlong_159 11 rfl (by decide) (by decide) rfl ?_
                    refine j_goto (tgt := 14) X dX11_crossAlong_162 (by decide) ?_
                    refine j_sub [9, 10, 11, 1, 3, 2, 4, 0] rfl ?_
                    exact ih 1 (mm + 1) (f1 b) (f2 b) 0 y4_sf_6 y5_sf_6 y6_sf_6 y7_sf_6 y8_sf_6 y9_sf_6 y10_sf_6 y11_sf_6 y12_sf_6 y13_sf_6 y14_sf_6 y15_sf_6 sf_6 (by omega) (by omega) (al_s hm0 (ho0 ▸ hI) c_58 c_130 c_138) hS_sf_6 (by omega)
                  · skip
                    first | simp only [bI_0, Decidable.not_not, sg_mul, sg_e0, sg_l0, sg_g0, sg_le0, sg_ge0, cmp_eq, cmp_lt, cmp_ge, cmp_gt, cmp_le, lT0, lT1] at c_138 | simp only [Int32.le_iff_toInt_le, Int32.lt_iff_toInt_lt, ← Int32.toInt_inj, iT0, iT1, iT2, iT3, iT4, iT5, iT6, iT7, iT8, iT9, iT10, iT11, iT12, iT13, iT14, iT15, iT16, iT19, iT20, iT31, iT32, iT42, iT64, iT200, iT318, iT319, iT1000, iTm1, iTm2] at c_138 | skip
                    refine j_iconst (v := 1) X dX11_crossAlong_141 rfl ?_
                    refine j_goto (tgt := 146) X dX11_crossAlong_142 (by decide) ?_
                    refine j_istore (L' := [(8, .int 1), (14, .long (f2 b)), (12, .long (f1 b)), (11, .int (nI b)), (10, .int (nI a)), (0, .ref (q 0)), (1, .int (nI a)), (2, .int (nI b)), (3, .int (nI mm)), (4, .long x), (6, .long y), (9, .int 0)]) X dX11_crossAlong_146 (by decide) rfl ?_
                    refine j_lload X dX11_crossAlong_148 2 rfl ?_
                    refine j_lstore (L' := [(4, .long (f1 b)), (8, .int 1), (14, .long (f2 b)), (12, .long (f1 b)), (11, .int (nI b)), (10, .int (nI a)), (0, .ref (q 0)), (1, .int (nI a)), (2, .int (nI b)), (3, .int (nI mm)), (6, .long y), (9, .int 0)]) X dX11_crossAlong_150 (by decide) rfl ?_
                    refine j_lload X dX11_crossAlong_152 2 rfl ?_
                    refine j_lstore (L' := [(6, .long (f2 b)), (4, .long (f1 b)), (8, .int 1), (14, .long (f2 b)), (12, .long (f1 b)), (11, .int (nI b)), (10, .int (nI a)), (0, .ref (q 0)), (1, .int (nI a)), (2, .int (nI b)), (3, .int (nI mm)), (9, .int 0)]) X dX11_crossAlong_154 (by decide) rfl ?_
                    refine j_iinc (v := nI (mm + 1)) (L' := [(3, .int (nI (mm + 1))), (6, .long (f2 b)), (4, .long (f1 b)), (8, .int 1), (14, .long (f2 b)), (12, .long (f1 b)), (11, .int (nI b)), (10, .int (nI a)), (0, .ref (q 0)), (1, .int (nI a)), (2, .int (nI b)), (9, .int 0)]) X dX11_crossAlong_156 10 rfl (nI_s (by omega)) (by decide) rfl ?_
                    refine j_iinc (v := 1) (L' := [(9, .int 1), (3, .int (nI (mm + 1))), (6, .long (f2 b)), (4, .long (f1 b)), (8, .int 1), (14, .long (f2 b)), (12, .long (f1 b)), (11, .int (nI b)), (10, .int (nI a)), (0, .ref (q 0)), (1, .int (nI a)), (2, .int (nI b))]) X dX11_crossAlong_159 11 rfl (by decide) (by decide) rfl ?_
                    refine j_goto (tgt := 14) X dX11_crossAlong_162 (by decide) ?_
                    refine j_sub [9, 10, 11, 1, 3, 2, 4, 0] rfl ?_
                    exact ih 1 (mm + 1) (f1 b) (f2 b) 1 y4_sf_6 y5_sf_6 y6_sf_6 y7_sf_6 y8_sf_6 y9_sf_6 y10_sf_6 y11_sf_6 y12_sf_6 y13_sf_6 y14_sf_6 y15_sf_6 sf_6 (by omega) (by omega) (al_d hm0 (ho0 ▸ hI) c_58 (fun h => c_138 h.2)) hS_sf_6 (by omega)
          · skip
            first | simp only [bI_0, Decidable.not_not, sg_mul, sg_e0, sg_l0, sg_g0, sg_le0, sg_ge0, cmp_eq, cmp_lt, cmp_ge, cmp_gt, cmp_le, lT0, lT1] at c_58 | simp only [Int32.le_iff_toInt_le, Int32.lt_iff_toInt_lt, ← Int32.toInt_inj, iT0, iT1, iT2, iT3, iT4, iT5, iT6, iT7, iT8, iT9, iT10, iT11, iT12, iT13, iT14, iT15, iT16, iT19, iT20, iT31, iT32, iT42, iT64, iT200, iT318, iT319, iT1000, iTm1, iTm2] at c_58 | skip
            refine j_goto (tgt := 159) X dX11_crossAlong_61 (by decide) ?_
            refine j_iinc (v := 1) (L' := [(9, .int 1), (11, .int (nI b)), (10, .int (nI a)), (0, .ref (q 0)), (1, .int (nI a)), (2, .int (nI b)), (3, .int (nI mm)), (4, .long x), (6, .long y), (8, .int o)]) X dX11_crossAlong_159 9 rfl (by decide) (by decide) rfl ?_
            refine j_goto (tgt := 14) X dX11_crossAlong_162 (by decide) ?_
            refine j_sub [3, 4, 5, 6, 7, 8, 9, 0] rfl ?_
            exact ih 1 mm x y o y4_sf_6 y5_sf_6 y6_sf_6 y7_sf_6 y8_sf_6 y9_sf_6 y10_sf_6 y11_sf_6 y12_sf_6 y13_sf_6 y14_sf_6 y15_sf_6 sf_6 (by omega) (by omega) (al_no hI c_58) hS_sf_6 (by omega)
        · skip
          change J p l e rm_X11_crossAlong s m args below meth c Q G A 16 0 0 20 [(0, .ref (q 0)), (1, .int (nI a)), (2, .int (nI b)), (3, .int (nI mm)), (4, .long x), (6, .long y), (8, .int o), (9, .int 1)] [] [(q 0, .inr (10, mF t n q co cr 0 tx ty)), (q 2, aJ G 200 f1), (q 3, aJ G 200 f2), (q 4, aJ G 200 f3), (q 5, aJ G 200 f4), (q 10, aI G 320 (rg [z0, z1, z2, z3, a4, a5, a6, a7, a8, a9, a10, a11, a12, a13, a14, a15])), (q 11, aZ G 16 s2), (q 12, aI G 2 sig)]
          refine j_iload X dX11_crossAlong_20 7 rfl ?_
          refine j_iconst (v := 2) X dX11_crossAlong_22 rfl ?_
          refine j_icmp_ge (tgt := 30) X dX11_crossAlong_23 (by decide) (fun c9 => absurd c9 (by decide)) (fun _ => ?_)
          refine j_iload_n X dX11_crossAlong_26 rfl 1 rfl ?_
          refine j_goto (tgt := 31) X dX11_crossAlong_27 (by decide) ?_
          refine j_istore (L' := [(10, .int (nI a)), (0, .ref (q 0)), (1, .int (nI a)), (2, .int (nI b)), (3, .int (nI mm)), (4, .long x), (6, .long y), (8, .int o), (9, .int 1)]) X dX11_crossAlong_31 (by decide) rfl ?_
          refine j_iload X dX11_crossAlong_33 8 rfl ?_
          refine j_iconst (v := 2) X dX11_crossAlong_35 rfl ?_
          refine j_icmp_ge (tgt := 43) X dX11_crossAlong_36 (by decide) (fun c9 => absurd c9 (by decide)) (fun _ => ?_)
          refine j_iload_n X dX11_crossAlong_39 rfl 3 rfl ?_
          refine j_goto (tgt := 44) X dX11_crossAlong_40 (by decide) ?_
          refine j_istore (L' := [(11, .int (nI b)), (10, .int (nI a)), (0, .ref (q 0)), (1, .int (nI a)), (2, .int (nI b)), (3, .int (nI mm)), (4, .long x), (6, .long y), (8, .int o), (9, .int 1)]) X dX11_crossAlong_44 (by decide) rfl ?_
          refine j_aload_n X dX11_crossAlong_46 rfl 2 rfl ?_
          refine j_iload X dX11_crossAlong_47 1 rfl ?_
          refine j_iload X dX11_crossAlong_49 0 rfl ?_
          refine j_iload X dX11_crossAlong_51 9 rfl ?_
          refine j_iconst (v := 2) X dX11_crossAlong_53 rfl ?_
          refine j_irem X dX11_crossAlong_54 (by decide) ?_
          rw [show (1 : Int32) - 1 / 2 * 2 = 1 from by decide]
          refine j_callV X dX11_crossAlong_55 (c_X11_hasEnd_1 l G q t n co cr 0 tx ty [z0, z1, z2, z3, a4, a5, a6, a7, a8, a9, a10, a11, a12, a13, a14, a15] rfl s2 hS2 f1 f2 f3 f4 a b ba ga bb gb) gX11_crossAlong_X11_hasEnd rfl hy_X11_hasEnd_V ⟨Nat.le_of_ble_eq_true rfl, Nat.le_of_ble_eq_true rfl⟩ 0 rfl rfl [0, 1, 2, 3, 4, 5, 6] rfl (by decide) rfl rfl (Nat.le_of_ble_eq_true rfl) ⟨Nat.le_of_ble_eq_true rfl, Nat.le_of_ble_eq_true rfl⟩ ?_
          rintro _ ⟨zs_9, sf_8⟩ ⟨rfl, hk_sf_8, hS_sf_8⟩
          obtain ⟨y4_sf_8, y5_sf_8, y6_sf_8, y7_sf_8, y8_sf_8, y9_sf_8, y10_sf_8, y11_sf_8, y12_sf_8, y13_sf_8, y14_sf_8, y15_sf_8, rfl⟩ := kp_4 hk_sf_8
          change J p l e rm_X11_crossAlong s m args below meth c Q G A 16 0 0 58 [(11, .int (nI b)), (10, .int (nI a)), (0, .ref (q 0)), (1, .int (nI a)), (2, .int (nI b)), (3, .int (nI mm)), (4, .long x), (6, .long y), (8, .int o), (9, .int 1)] [.int (bI (onS (f1 a).toInt (f2 a).toInt (f3 a).toInt (f4 a).toInt (f3 b).toInt (f4 b).toInt))] [(q 0, .inr (10, mF t n q co cr 0 tx ty)), (q 2, aJ G 200 f1), (q 3, aJ G 200 f2), (q 4, aJ G 200 f3), (q 5, aJ G 200 f4), (q 10, aI G 320 (rg [z0, z1, z2, z3, y4_sf_8, y5_sf_8, y6_sf_8, y7_sf_8, y8_sf_8, y9_sf_8, y10_sf_8, y11_sf_8, y12_sf_8, y13_sf_8, y14_sf_8, y15_sf_8])), (q 11, aZ G 16 sf_8), (q 12, aI G 2 sig)]
          refine j_if_ne (tgt := 64) X dX11_crossAlong_58 (by decide) (fun c_58 => ?_) (fun c_58 => ?_)
          · skip
            first | simp only [bI_0, Decidable.not_not, sg_mul, sg_e0, sg_l0, sg_g0, sg_le0, sg_ge0, cmp_eq, cmp_lt, cmp_ge, cmp_gt, cmp_le, lT0, lT1] at c_58 | simp only [Int32.le_iff_toInt_le, Int32.lt_iff_toInt_lt, ← Int32.toInt_inj, iT0, iT1, iT2, iT3, iT4, iT5, iT6, iT7, iT8, iT9, iT10, iT11, iT12, iT13, iT14, iT15, iT16, iT19, iT20, iT31, iT32, iT42, iT64, iT200, iT318, iT319, iT1000, iTm1, iTm2] at c_58 | skip
            refine j_iload X dX11_crossAlong_64 9 rfl ?_
            refine j_iconst (v := 2) X dX11_crossAlong_66 rfl ?_
            refine j_irem X dX11_crossAlong_67 (by decide) ?_
            rw [show (1 : Int32) - 1 / 2 * 2 = 1 from by decide]
            refine j_if_ne (tgt := 81) X dX11_crossAlong_68 (by decide) (fun _ => ?_) (fun c9 => absurd c9 (by decide))
            refine j_aload_n X dX11_crossAlong_81 rfl 2 rfl ?_
            refine j_get (v := .ref (q 4)) X dX11_crossAlong_82 0 rfl 5 rfl in_X11_crossAlong_X11 (by decide) fl_X11_crossAlong_20 rfl ?_
            refine j_iload X dX11_crossAlong_85 0 rfl ?_
            refine j_lald X dX11_crossAlong_87 3 rfl b rfl gb (by decide) ?_
            refine j_lstore (L' := [(12, .long (f3 b)), (11, .int (nI b)), (10, .int (nI a)), (0, .ref (q 0)), (1, .int (nI a)), (2, .int (nI b)), (3, .int (nI mm)), (4, .long x), (6, .long y), (8, .int o), (9, .int 1)]) X dX11_crossAlong_88 (by decide) rfl ?_
            refine j_iload X dX11_crossAlong_90 10 rfl ?_
            refine j_iconst (v := 2) X dX11_crossAlong_92 rfl ?_
            refine j_irem X dX11_crossAlong_93 (by decide) ?_
            rw [show (1 : Int32) - 1 / 2 * 2 = 1 from by decide]
            refine j_if_ne (tgt := 107) X dX11_crossAlong_94 (by decide) (fun _ => ?_) (fun c9 => absurd c9 (by decide))
            refine j_aload_n X dX11_crossAlong_107 rfl 3 rfl ?_
            refine j_get (v := .ref (q 5)) X dX11_crossAlong_108 0 rfl 6 rfl in_X11_crossAlong_X11 (by decide) fl_X11_crossAlong_23 rfl ?_
            refine j_iload X dX11_crossAlong_111 1 rfl ?_
            refine j_lald X dX11_crossAlong_113 4 rfl b rfl gb (by decide) ?_
            refine j_lstore (L' := [(14, .long (f4 b)), (12, .long (f3 b)), (11, .int (nI b)), (10, .int (nI a)), (0, .ref (q 0)), (1, .int (nI a)), (2, .int (nI b)), (3, .int (nI mm)), (4, .long x), (6, .long y), (8, .int o), (9, .int 1)]) X dX11_crossAlong_114 (by decide) rfl ?_
            refine j_iload X dX11_crossAlong_116 10 rfl ?_
            refine j_if_ne (tgt := 141) X dX11_crossAlong_118 (by decide) (fun c_118 => ?_) (fun c_118 => ?_)
            · skip
              have ho1 : o = 1 := by rcases hI with h | h | h; exact absurd h.2.1 c_118; exact absurd h.2.1 c_118; exact h.2.1
              refine j_iconst (v := 1) X dX11_crossAlong_141 rfl ?_
              refine j_goto (tgt := 146) X dX11_crossAlong_142 (by decide) ?_
              refine j_istore (L' := [(8, .int 1), (14, .long (f4 b)), (12, .long (f3 b)), (11, .int (nI b)), (10, .int (nI a)), (0, .ref (q 0)), (1, .int (nI a)), (2, .int (nI b)), (3, .int (nI mm)), (4, .long x), (6, .long y), (9, .int 1)]) X dX11_crossAlong_146 (by decide) rfl ?_
              refine j_lload X dX11_crossAlong_148 2 rfl ?_
              refine j_lstore (L' := [(4, .long (f3 b)), (8, .int 1), (14, .long (f4 b)), (12, .long (f3 b)), (11, .int (nI b)), (10, .int (nI a)), (0, .ref (q 0)), (1, .int (nI a)), (2, .int (nI b)), (3, .int (nI mm)), (6, .long y), (9, .int 1)]) X dX11_crossAlong_150 (by decide) rfl ?_
              refine j_lload X dX11_crossAlong_152 2 rfl ?_
              refine j_lstore (L' := [(6, .long (f4 b)), (4, .long (f3 b)), (8, .int 1), (14, .long (f4 b)), (12, .long (f3 b)), (11, .int (nI b)), (10, .int (nI a)), (0, .ref (q 0)), (1, .int (nI a)), (2, .int (nI b)), (3, .int (nI mm)), (9, .int 1)]) X dX11_crossAlong_154 (by decide) rfl ?_
              refine j_iinc (v := nI (mm + 1)) (L' := [(3, .int (nI (mm + 1))), (6, .long (f4 b)), (4, .long (f3 b)), (8, .int 1), (14, .long (f4 b)), (12, .long (f3 b)), (11, .int (nI b)), (10, .int (nI a)), (0, .ref (q 0)), (1, .int (nI a)), (2, .int (nI b)), (9, .int 1)]) X dX11_crossAlong_156 10 rfl (nI_s (by omega)) (by decide) rfl ?_
              refine j_iinc (v := 2) (L' := [(9, .int 2), (3, .int (nI (mm + 1))), (6, .long (f4 b)), (4, .long (f3 b)), (8, .int 1), (14, .long (f4 b)), (12, .long (f3 b)), (11, .int (nI b)), (10, .int (nI a)), (0, .ref (q 0)), (1, .int (nI a)), (2, .int (nI b))]) X dX11_crossAlong_159 11 rfl (by decide) (by decide) rfl ?_
              refine j_goto (tgt := 14) X dX11_crossAlong_162 (by decide) ?_
              refine j_sub [9, 10, 11, 1, 3, 2, 4, 0] rfl ?_
              exact ih 2 (mm + 1) (f3 b) (f4 b) 1 y4_sf_8 y5_sf_8 y6_sf_8 y7_sf_8 y8_sf_8 y9_sf_8 y10_sf_8 y11_sf_8 y12_sf_8 y13_sf_8 y14_sf_8 y15_sf_8 sf_8 (by omega) (by omega) (al_o (ho1 ▸ hI)) hS_sf_8 (by omega)
            · skip
              have ho0 : o = 0 := c_118
              refine j_iload_n X dX11_crossAlong_121 rfl 7 rfl ?_
              refine j_if_le (tgt := 145) X dX11_crossAlong_122 (by decide) (fun c_122 => ?_) (fun c_122 => ?_)
              · skip
                first | simp only [bI_0, Decidable.not_not, sg_mul, sg_e0, sg_l0, sg_g0, sg_le0, sg_ge0, cmp_eq, cmp_lt, cmp_ge, cmp_gt, cmp_le, lT0, lT1] at c_122 | simp only [Int32.le_iff_toInt_le, Int32.lt_iff_toInt_lt, ← Int32.toInt_inj, iT0, iT1, iT2, iT3, iT4, iT5, iT6, iT7, iT8, iT9, iT10, iT11, iT12, iT13, iT14, iT15, iT16, iT19, iT20, iT31, iT32, iT42, iT64, iT200, iT318, iT319, iT1000, iTm1, iTm2] at c_122 | skip
                rw [nI_T (by omega)] at c_122
                have hI0 : mm = 0 := by omega
                refine j_iconst (v := 0) X dX11_crossAlong_145 rfl ?_
                refine j_istore (L' := [(8, .int 0), (14, .long (f4 b)), (12, .long (f3 b)), (11, .int (nI b)), (10, .int (nI a)), (0, .ref (q 0)), (1, .int (nI a)), (2, .int (nI b)), (3, .int (nI mm)), (4, .long x), (6, .long y), (9, .int 1)]) X dX11_crossAlong_146 (by decide) rfl ?_
                refine j_lload X dX11_crossAlong_148 2 rfl ?_
                refine j_lstore (L' := [(4, .long (f3 b)), (8, .int 0), (14, .long (f4 b)), (12, .long (f3 b)), (11, .int (nI b)), (10, .int (nI a)), (0, .ref (q 0)), (1, .int (nI a)), (2, .int (nI b)), (3, .int (nI mm)), (6, .long y), (9, .int 1)]) X dX11_crossAlong_150 (by decide) rfl ?_
                refine j_lload X dX11_crossAlong_152 2 rfl ?_
                refine j_lstore (L' := [(6, .long (f4 b)), (4, .long (f3 b)), (8, .int 0), (14, .long (f4 b)), (12, .long (f3 b)), (11, .int (nI b)), (10, .int (nI a)), (0, .ref (q 0)), (1, .int (nI a)), (2, .int (nI b)), (3, .int (nI mm)), (9, .int 1)]) X dX11_crossAlong_154 (by decide) rfl ?_
                refine j_iinc (v := nI (mm + 1)) (L' := [(3, .int (nI (mm + 1))), (6, .long (f4 b)), (4, .long (f3 b)), (8, .int 0), (14, .long (f4 b)), (12, .long (f3 b)), (11, .int (nI b)), (10, .int (nI a)), (0, .ref (q 0)), (1, .int (nI a)), (2, .int (nI b)), (9, .int 1)]) X dX11_crossAlong_156 10 rfl (nI_s (by omega)) (by decide) rfl ?_
                refine j_iinc (v := 2) (L' := [(9, .int 2), (3, .int (nI (mm + 1))), (6, .long (f4 b)), (4, .long (f3 b)), (8, .int 0), (14, .long (f4 b)), (12, .long (f3 b)), (11, .int (nI b)), (10, .int (nI a)), (0, .ref (q 0)), (1, .int (nI a)), (2, .int (nI b))]) X dX11_crossAlong_159 11 rfl (by decide) (by decide) rfl ?_
                refine j_goto (tgt := 14) X dX11_crossAlong_162 (by decide) ?_
                refine j_sub [9, 10, 11, 1, 3, 2, 4, 0] rfl ?_
                exact ih 2 (mm + 1) (f3 b) (f4 b) 0 y4_sf_8 y5_sf_8 y6_sf_8 y7_sf_8 y8_sf_8 y9_sf_8 y10_sf_8 y11_sf_8 y12_sf_8 y13_sf_8 y14_sf_8 y15_sf_8 sf_8 (by omega) (by omega) (al_f hI0 hI c_58) hS_sf_8 (by omega)
              · skip
                first | simp only [bI_0, Decidable.not_not, sg_mul, sg_e0, sg_l0, sg_g0, sg_le0, sg_ge0, cmp_eq, cmp_lt, cmp_ge, cmp_gt, cmp_le, lT0, lT1] at c_122 | simp only [Int32.le_iff_toInt_le, Int32.lt_iff_toInt_lt, ← Int32.toInt_inj, iT0, iT1, iT2, iT3, iT4, iT5, iT6, iT7, iT8, iT9, iT10, iT11, iT12, iT13, iT14, iT15, iT16, iT19, iT20, iT31, iT32, iT42, iT64, iT200, iT318, iT319, iT1000, iTm1, iTm2] at c_122 | skip
                rw [nI_T (by omega)] at c_122
                have hm0 : 0 < mm := by omega
                refine j_lload X dX11_crossAlong_125 1 rfl ?_
                refine j_lload X dX11_crossAlong_127 8 rfl ?_
                refine j_lcmp X dX11_crossAlong_129 ?_
                refine j_if_ne (tgt := 141) X dX11_crossAlong_130 (by decide) (fun c_130 => ?_) (fun c_130 => ?_)
                · skip
                  first | simp only [bI_0, Decidable.not_not, sg_mul, sg_e0, sg_l0, sg_g0, sg_le0, sg_ge0, cmp_eq, cmp_lt, cmp_ge, cmp_gt, cmp_le, lT0, lT1] at c_130 | simp only [Int32.le_iff_toInt_le, Int32.lt_iff_toInt_lt, ← Int32.toInt_inj, iT0, iT1, iT2, iT3, iT4, iT5, iT6, iT7, iT8, iT9, iT10, iT11, iT12, iT13, iT14, iT15, iT16, iT19, iT20, iT31, iT32, iT42, iT64, iT200, iT318, iT319, iT1000, iTm1, iTm2] at c_130 | skip
                  refine j_iconst (v := 1) X dX11_crossAlong_141 rfl ?_
                  refine j_goto (tgt := 146) X dX11_crossAlong_142 (by decide) ?_
                  refine j_istore (L' := [(8, .int 1), (14, .long (f4 b)), (12, .long (f3 b)), (11, .int (nI b)), (10, .int (nI a)), (0, .ref (q 0)), (1, .int (nI a)), (2, .int (nI b)), (3, .int (nI mm)), (4, .long x), (6, .long y), (9, .int 1)]) X dX11_crossAlong_146 (by decide) rfl ?_
                  refine j_lload X dX11_crossAlong_148 2 rfl ?_
                  refine j_lstore (L' := [(4, .long (f3 b)), (8, .int 1), (14, .long (f4 b)), (12, .long (f3 b)), (11, .int (nI b)), (10, .int (nI a)), (0, .ref (q 0)), (1, .int (nI a)), (2, .int (nI b)), (3, .int (nI mm)), (6, .long y), (9, .int 1)]) X dX11_crossAlong_150 (by decide) rfl ?_
                  refine j_lload X dX11_crossAlong_152 2 rfl ?_
                  refine j_lstore (L' := [(6, .long (f4 b)), (4, .long (f3 b)), (8, .int 1), (14, .long (f4 b)), (12, .long (f3 b)), (11, .int (nI b)), (10, .int (nI a)), (0, .ref (q 0)), (1, .int (nI a)), (2, .int (nI b)), (3, .int (nI mm)), (9, .int 1)]) X dX11_crossAlong_154 (by decide) rfl ?_
                  refine j_iinc (v := nI (mm + 1)) (L' := [(3, .int (nI (mm + 1))), (6, .long (f4 b)), (4, .long (f3 b)), (8, .int 1), (14, .long (f4 b)), (12, .long (f3 b)), (11, .int (nI b)), (10, .int (nI a)), (0, .ref (q 0)), (1, .int (nI a)), (2, .int (nI b)), (9, .int 1)]) X dX11_crossAlong_156 10 rfl (nI_s (by omega)) (by decide) rfl ?_
                  refine j_iinc (v := 2) (L' := [(9, .int 2), (3, .int (nI (mm + 1))), (6, .long (f4 b)), (4, .long (f3 b)), (8, .int 1), (14, .long (f4 b)), (12, .long (f3 b)), (11, .int (nI b)), (10, .int (nI a)), (0, .ref (q 0)), (1, .int (nI a)), (2, .int (nI b))]) X dX11_crossAlong_159 11 rfl (by decide) (by decide) rfl ?_
                  refine j_goto (tgt := 14) X dX11_crossAlong_162 (by decide) ?_
                  refine j_sub [9, 10, 11, 1, 3, 2, 4, 0] rfl ?_
                  exact ih 2 (mm + 1) (f3 b) (f4 b) 1 y4_sf_8 y5_sf_8 y6_sf_8 y7_sf_8 y8_sf_8 y9_sf_8 y10_sf_8 y11_sf_8 y12_sf_8 y13_sf_8 y14_sf_8 y15_sf_8 sf_8 (by omega) (by omega) (al_d hm0 (ho0 ▸ hI) c_58 (fun h => c_130 h.1)) hS_sf_8 (by omega)
                · skip
                  first | simp only [bI_0, Decidable.not_not, sg_mul, sg_e0, sg_l0, sg_g0, sg_le0, sg_ge0, cmp_eq, cmp_lt, cmp_ge, cmp_gt, cmp_le, lT0, lT1] at c_130 | simp only [Int32.le_iff_toInt_le, Int32.lt_iff_toInt_lt, ← Int32.toInt_inj, iT0, iT1, iT2, iT3, iT4, iT5, iT6, iT7, iT8, iT9, iT10, iT11, iT12, iT13, iT14, iT15, iT16, iT19, iT20, iT31, iT32, iT42, iT64, iT200, iT318, iT319, iT1000, iTm1, iTm2] at c_130 | skip
                  refine j_lload X dX11_crossAlong_133 0 rfl ?_
                  refine j_lload X dX11_crossAlong_135 9 rfl ?_
                  refine j_lcmp X dX11_crossAlong_137 ?_
                  refine j_if_eq (tgt := 145) X dX11_crossAlong_138 (by decide) (fun c_138 => ?_) (fun c_138 => ?_)
                  · skip
                    first | simp only [bI_0, Decidable.not_not, sg_mul, sg_e0, sg_l0, sg_g0, sg_le0, sg_ge0, cmp_eq, cmp_lt, cmp_ge, cmp_gt, cmp_le, lT0, lT1] at c_138 | simp only [Int32.le_iff_toInt_le, Int32.lt_iff_toInt_lt, ← Int32.toInt_inj, iT0, iT1, iT2, iT3, iT4, iT5, iT6, iT7, iT8, iT9, iT10, iT11, iT12, iT13, iT14, iT15, iT16, iT19, iT20, iT31, iT32, iT42, iT64, iT200, iT318, iT319, iT1000, iTm1, iTm2] at c_138 | skip
                    refine j_iconst (v := 0) X dX11_crossAlong_145 rfl ?_
                    refine j_istore (L' := [(8, .int 0), (14, .long (f4 b)), (12, .long (f3 b)), (11, .int (nI b)), (10, .int (nI a)), (0, .ref (q 0)), (1, .int (nI a)), (2, .int (nI b)), (3, .int (nI mm)), (4, .long x), (6, .long y), (9, .int 1)]) X dX11_crossAlong_146 (by decide) rfl ?_
                    refine j_lload X dX11_crossAlong_148 2 rfl ?_
                    refine j_lstore (L' := [(4, .long (f3 b)), (8, .int 0), (14, .long (f4 b)), (12, .long (f3 b)), (11, .int (nI b)), (10, .int (nI a)), (0, .ref (q 0)), (1, .int (nI a)), (2, .int (nI b)), (3, .int (nI mm)), (6, .long y), (9, .int 1)]) X dX11_crossAlong_150 (by decide) rfl ?_
                    refine j_lload X dX11_crossAlong_152 2 rfl ?_
                    refine j_lstore (L' := [(6, .long (f4 b)), (4, .long (f3 b)), (8, .int 0), (14, .long (f4 b)), (12, .long (f3 b)), (11, .int (nI b)), (10, .int (nI a)), (0, .ref (q 0)), (1, .int (nI a)), (2, .int (nI b)), (3, .int (nI mm)), (9, .int 1)]) X dX11_crossAlong_154 (by decide) rfl ?_
                    refine j_iinc (v := nI (mm + 1)) (L' := [(3, .int (nI (mm + 1))), (6, .long (f4 b)), (4, .long (f3 b)), (8, .int 0), (14, .long (f4 b)), (12, .long (f3 b)), (11, .int (nI b)), (10, .int (nI a)), (0, .ref (q 0)), (1, .int (nI a)), (2, .int (nI b)), (9, .int 1)]) X dX11_crossAlong_156 10 rfl (nI_s (by omega)) (by decide) rfl ?_
                    refine j_iinc (v := 2) (L' := [(9, .int 2), (3, .int (nI (mm + 1))), (6, .long (f4 b)), (4, .long (f3 b)), (8, .int 0), (14, .long (f4 b)), (12, .long (f3 b)), (11, .int (nI b)), (10, .int (nI a)), (0, .ref (q 0)), (1, .int (nI a)), (2, .int (nI b))]) X dX11_crossAlong_159 11 rfl (by decide) (by decide) rfl ?_
                    refine j_goto (tgt := 14) X dX11_crossAlong_162 (by decide) ?_
                    refine j_sub [9, 10, 11, 1, 3, 2, 4, 0] rfl ?_
                    exact ih 2 (mm + 1) (f3 b) (f4 b) 0 y4_sf_8 y5_sf_8 y6_sf_8 y7_sf_8 y8_sf_8 y9_sf_8 y10_sf_8 y11_sf_8 y12_sf_8 y13_sf_8 y14_sf_8 y15_sf_8 sf_8 (by omega) (by omega) (al_s hm0 (ho0 ▸ hI) c_58 c_130 c_138) hS_sf_8 (by omega)
                  · skip
                    first | simp only [bI_0, Decidable.not_not, sg_mul, sg_e0, sg_l0, sg_g0, sg_le0, sg_ge0, cmp_eq, cmp_lt, cmp_ge, cmp_gt, cmp_le, lT0, lT1] at c_138 | simp only [Int32.le_iff_toInt_le, Int32.lt_iff_toInt_lt, ← Int32.toInt_inj, iT0, iT1, iT2, iT3, iT4, iT5, iT6, iT7, iT8, iT9, iT10, iT11, iT12, iT13, iT14, iT15, iT16, iT19, iT20, iT31, iT32, iT42, iT64, iT200, iT318, iT319, iT1000, iTm1, iTm2] at c_138 | skip
                    refine j_iconst (v := 1) X dX11_crossAlong_141 rfl ?_
                    refine j_goto (tgt := 146) X dX11_crossAlong_142 (by decide) ?_
                    refine j_istore (L' := [(8, .int 1), (14, .long (f4 b)), (12, .long (f3 b)), (11, .int (nI b)), (10, .int (nI a)), (0, .ref (q 0)), (1, .int (nI a)), (2, .int (nI b)), (3, .int (nI mm)), (4, .long x), (6, .long y), (9, .int 1)]) X dX11_crossAlong_146 (by decide) rfl ?_
                    refine j_lload X dX11_crossAlong_148 2 rfl ?_
                    refine j_lstore (L' := [(4, .long (f3 b)), (8, .int 1), (14, .long (f4 b)), (12, .long (f3 b)), (11, .int (nI b)), (10, .int (nI a)), (0, .ref (q 0)), (1, .int (nI a)), (2, .int (nI b)), (3, .int (nI mm)), (6, .long y), (9, .int 1)]) X dX11_crossAlong_150 (by decide) rfl ?_
                    refine j_lload X dX11_crossAlong_152 2 rfl ?_
                    refine j_lstore (L' := [(6, .long (f4 b)), (4, .long (f3 b)), (8, .int 1), (14, .long (f4 b)), (12, .long (f3 b)), (11, .int (nI b)), (10, .int (nI a)), (0, .ref (q 0)), (1, .int (nI a)), (2, .int (nI b)), (3, .int (nI mm)), (9, .int 1)]) X dX11_crossAlong_154 (by decide) rfl ?_
                    refine j_iinc (v := nI (mm + 1)) (L' := [(3, .int (nI (mm + 1))), (6, .long (f4 b)), (4, .long (f3 b)), (8, .int 1), (14, .long (f4 b)), (12, .long (f3 b)), (11, .int (nI b)), (10, .int (nI a)), (0, .ref (q 0)), (1, .int (nI a)), (2, .int (nI b)), (9, .int 1)]) X dX11_crossAlong_156 10 rfl (nI_s (by omega)) (by decide) rfl ?_
                    refine j_iinc (v := 2) (L' := [(9, .int 2), (3, .int (nI (mm + 1))), (6, .long (f4 b)), (4, .long (f3 b)), (8, .int 1), (14, .long (f4 b)), (12, .long (f3 b)), (11, .int (nI b)), (10, .int (nI a)), (0, .ref (q 0)), (1, .int (nI a)), (2, .int (nI b))]) X dX11_crossAlong_159 11 rfl (by decide) (by decide) rfl ?_
                    refine j_goto (tgt := 14) X dX11_crossAlong_162 (by decide) ?_
                    refine j_sub [9, 10, 11, 1, 3, 2, 4, 0] rfl ?_
                    exact ih 2 (mm + 1) (f3 b) (f4 b) 1 y4_sf_8 y5_sf_8 y6_sf_8 y7_sf_8 y8_sf_8 y9_sf_8 y10_sf_8 y11_sf_8 y12_sf_8 y13_sf_8 y14_sf_8 y15_sf_8 sf_8 (by omega) (by omega) (al_d hm0 (ho0 ▸ hI) c_58 (fun h => c_138 h.2)) hS_sf_8 (by omega)
          · skip
            first | simp only [bI_0, Decidable.not_not, sg_mul, sg_e0, sg_l0, sg_g0, sg_le0, sg_ge0, cmp_eq, cmp_lt, cmp_ge, cmp_gt, cmp_le, lT0, lT1] at c_58 | simp only [Int32.le_iff_toInt_le, Int32.lt_iff_toInt_lt, ← Int32.toInt_inj, iT0, iT1, iT2, iT3, iT4, iT5, iT6, iT7, iT8, iT9, iT10, iT11, iT12, iT13, iT14, iT15, iT16, iT19, iT20, iT31, iT32, iT42, iT64, iT200, iT318, iT319, iT1000, iTm1, iTm2] at c_58 | skip
            refine j_goto (tgt := 159) X dX11_crossAlong_61 (by decide) ?_
            refine j_iinc (v := 2) (L' := [(9, .int 2), (11, .int (nI b)), (10, .int (nI a)), (0, .ref (q 0)), (1, .int (nI a)), (2, .int (nI b)), (3, .int (nI mm)), (4, .long x), (6, .long y), (8, .int o)]) X dX11_crossAlong_159 9 rfl (by decide) (by decide) rfl ?_
            refine j_goto (tgt := 14) X dX11_crossAlong_162 (by decide) ?_
            refine j_sub [3, 4, 5, 6, 7, 8, 9, 0] rfl ?_
            exact ih 2 mm x y o y4_sf_8 y5_sf_8 y6_sf_8 y7_sf_8 y8_sf_8 y9_sf_8 y10_sf_8 y11_sf_8 y12_sf_8 y13_sf_8 y14_sf_8 y15_sf_8 sf_8 (by omega) (by omega) (al_no hI c_58) hS_sf_8 (by omega)
        · skip
          change J p l e rm_X11_crossAlong s m args below meth c Q G A 16 0 0 20 [(0, .ref (q 0)), (1, .int (nI a)), (2, .int (nI b)), (3, .int (nI mm)), (4, .long x), (6, .long y), (8, .int o), (9, .int 2)] [] [(q 0, .inr (10, mF t n q co cr 0 tx ty)), (q 2, aJ G 200 f1), (q 3, aJ G 200 f2), (q 4, aJ G 200 f3), (q 5, aJ G 200 f4), (q 10, aI G 320 (rg [z0, z1, z2, z3, a4, a5, a6, a7, a8, a9, a10, a11, a12, a13, a14, a15])), (q 11, aZ G 16 s2), (q 12, aI G 2 sig)]
          refine j_iload X dX11_crossAlong_20 7 rfl ?_
          refine j_iconst (v := 2) X dX11_crossAlong_22 rfl ?_
          refine j_icmp_ge (tgt := 30) X dX11_crossAlong_23 (by decide) (fun _ => ?_) (fun c9 => absurd c9 (by decide))
          refine j_iload_n X dX11_crossAlong_30 rfl 2 rfl ?_
          refine j_istore (L' := [(10, .int (nI b)), (0, .ref (q 0)), (1, .int (nI a)), (2, .int (nI b)), (3, .int (nI mm)), (4, .long x), (6, .long y), (8, .int o), (9, .int 2)]) X dX11_crossAlong_31 (by decide) rfl ?_
          refine j_iload X dX11_crossAlong_33 8 rfl ?_
          refine j_iconst (v := 2) X dX11_crossAlong_35 rfl ?_
          refine j_icmp_ge (tgt := 43) X dX11_crossAlong_36 (by decide) (fun _ => ?_) (fun c9 => absurd c9 (by decide))
          refine j_iload_n X dX11_crossAlong_43 rfl 2 rfl ?_
          refine j_istore (L' := [(11, .int (nI a)), (10, .int (nI b)), (0, .ref (q 0)), (1, .int (nI a)), (2, .int (nI b)), (3, .int (nI mm)), (4, .long x), (6, .long y), (8, .int o), (9, .int 2)]) X dX11_crossAlong_44 (by decide) rfl ?_
          refine j_aload_n X dX11_crossAlong_46 rfl 2 rfl ?_
          refine j_iload X dX11_crossAlong_47 1 rfl ?_
          refine j_iload X dX11_crossAlong_49 0 rfl ?_
          refine j_iload X dX11_crossAlong_51 9 rfl ?_
          refine j_iconst (v := 2) X dX11_crossAlong_53 rfl ?_
          refine j_irem X dX11_crossAlong_54 (by decide) ?_
          rw [show (2 : Int32) - 2 / 2 * 2 = 0 from by decide]
          refine j_callV X dX11_crossAlong_55 (c_X11_hasEnd_0 l G q t n co cr 0 tx ty [z0, z1, z2, z3, a4, a5, a6, a7, a8, a9, a10, a11, a12, a13, a14, a15] rfl s2 hS2 f1 f2 f3 f4 b a bb gb ba ga) gX11_crossAlong_X11_hasEnd rfl hy_X11_hasEnd_V ⟨Nat.le_of_ble_eq_true rfl, Nat.le_of_ble_eq_true rfl⟩ 0 rfl rfl [0, 1, 2, 3, 4, 5, 6] rfl (by decide) rfl rfl (Nat.le_of_ble_eq_true rfl) ⟨Nat.le_of_ble_eq_true rfl, Nat.le_of_ble_eq_true rfl⟩ ?_
          rintro _ ⟨zs_11, sf_10⟩ ⟨rfl, hk_sf_10, hS_sf_10⟩
          obtain ⟨y4_sf_10, y5_sf_10, y6_sf_10, y7_sf_10, y8_sf_10, y9_sf_10, y10_sf_10, y11_sf_10, y12_sf_10, y13_sf_10, y14_sf_10, y15_sf_10, rfl⟩ := kp_4 hk_sf_10
          change J p l e rm_X11_crossAlong s m args below meth c Q G A 16 0 0 58 [(11, .int (nI a)), (10, .int (nI b)), (0, .ref (q 0)), (1, .int (nI a)), (2, .int (nI b)), (3, .int (nI mm)), (4, .long x), (6, .long y), (8, .int o), (9, .int 2)] [.int (bI (onS (f1 b).toInt (f2 b).toInt (f3 b).toInt (f4 b).toInt (f1 a).toInt (f2 a).toInt))] [(q 0, .inr (10, mF t n q co cr 0 tx ty)), (q 2, aJ G 200 f1), (q 3, aJ G 200 f2), (q 4, aJ G 200 f3), (q 5, aJ G 200 f4), (q 10, aI G 320 (rg [z0, z1, z2, z3, y4_sf_10, y5_sf_10, y6_sf_10, y7_sf_10, y8_sf_10, y9_sf_10, y10_sf_10, y11_sf_10, y12_sf_10, y13_sf_10, y14_sf_10, y15_sf_10])), (q 11, aZ G 16 sf_10), (q 12, aI G 2 sig)]
          refine j_if_ne (tgt := 64) X dX11_crossAlong_58 (by decide) (fun c_58 => ?_) (fun c_58 => ?_)
          · skip
            first | simp only [bI_0, Decidable.not_not, sg_mul, sg_e0, sg_l0, sg_g0, sg_le0, sg_ge0, cmp_eq, cmp_lt, cmp_ge, cmp_gt, cmp_le, lT0, lT1] at c_58 | simp only [Int32.le_iff_toInt_le, Int32.lt_iff_toInt_lt, ← Int32.toInt_inj, iT0, iT1, iT2, iT3, iT4, iT5, iT6, iT7, iT8, iT9, iT10, iT11, iT12, iT13, iT14, iT15, iT16, iT19, iT20, iT31, iT32, iT42, iT64, iT200, iT318, iT319, iT1000, iTm1, iTm2] at c_58 | skip
            refine j_iload X dX11_crossAlong_64 9 rfl ?_
            refine j_iconst (v := 2) X dX11_crossAlong_66 rfl ?_
            refine j_irem X dX11_crossAlong_67 (by decide) ?_
            rw [show (2 : Int32) - 2 / 2 * 2 = 0 from by decide]
            refine j_if_ne (tgt := 81) X dX11_crossAlong_68 (by decide) (fun c9 => absurd c9 (by decide)) (fun _ => ?_)
            refine j_aload_n X dX11_crossAlong_71 rfl 2 rfl ?_
            refine j_get (v := .ref (q 2)) X dX11_crossAlong_72 0 rfl 3 rfl in_X11_crossAlong_X11 (by decide) fl_X11_crossAlong_13 rfl ?_
            refine j_iload X dX11_crossAlong_75 0 rfl ?_
            refine j_lald X dX11_crossAlong_77 1 rfl a rfl ga (by decide) ?_
            refine j_goto (tgt := 88) X dX11_crossAlong_78 (by decide) ?_
            refine j_lstore (L' := [(12, .long (f1 a)), (11, .int (nI a)), (10, .int (nI b)), (0, .ref (q 0)), (1, .int (nI a)), (2, .int (nI b)), (3, .int (nI mm)), (4, .long x), (6, .long y), (8, .int o), (9, .int 2)]) X dX11_crossAlong_88 (by decide) rfl ?_
            refine j_iload X dX11_crossAlong_90 10 rfl ?_
            refine j_iconst (v := 2) X dX11_crossAlong_92 rfl ?_
            refine j_irem X dX11_crossAlong_93 (by decide) ?_
            rw [show (2 : Int32) - 2 / 2 * 2 = 0 from by decide]
            refine j_if_ne (tgt := 107) X dX11_crossAlong_94 (by decide) (fun c9 => absurd c9 (by decide)) (fun _ => ?_)
            refine j_aload_n X dX11_crossAlong_97 rfl 3 rfl ?_
            refine j_get (v := .ref (q 3)) X dX11_crossAlong_98 0 rfl 4 rfl in_X11_crossAlong_X11 (by decide) fl_X11_crossAlong_17 rfl ?_
            refine j_iload X dX11_crossAlong_101 1 rfl ?_
            refine j_lald X dX11_crossAlong_103 2 rfl a rfl ga (by decide) ?_
            refine j_goto (tgt := 114) X dX11_crossAlong_104 (by decide) ?_
            refine j_lstore (L' := [(14, .long (f2 a)), (12, .long (f1 a)), (11, .int (nI a)), (10, .int (nI b)), (0, .ref (q 0)), (1, .int (nI a)), (2, .int (nI b)), (3, .int (nI mm)), (4, .long x), (6, .long y), (8, .int o), (9, .int 2)]) X dX11_crossAlong_114 (by decide) rfl ?_
            refine j_iload X dX11_crossAlong_116 10 rfl ?_
            refine j_if_ne (tgt := 141) X dX11_crossAlong_118 (by decide) (fun c_118 => ?_) (fun c_118 => ?_)
            · skip
              have ho1 : o = 1 := by rcases hI with h | h | h; exact absurd h.2.1 c_118; exact absurd h.2.1 c_118; exact h.2.1
              refine j_iconst (v := 1) X dX11_crossAlong_141 rfl ?_
              refine j_goto (tgt := 146) X dX11_crossAlong_142 (by decide) ?_
              refine j_istore (L' := [(8, .int 1), (14, .long (f2 a)), (12, .long (f1 a)), (11, .int (nI a)), (10, .int (nI b)), (0, .ref (q 0)), (1, .int (nI a)), (2, .int (nI b)), (3, .int (nI mm)), (4, .long x), (6, .long y), (9, .int 2)]) X dX11_crossAlong_146 (by decide) rfl ?_
              refine j_lload X dX11_crossAlong_148 2 rfl ?_
              refine j_lstore (L' := [(4, .long (f1 a)), (8, .int 1), (14, .long (f2 a)), (12, .long (f1 a)), (11, .int (nI a)), (10, .int (nI b)), (0, .ref (q 0)), (1, .int (nI a)), (2, .int (nI b)), (3, .int (nI mm)), (6, .long y), (9, .int 2)]) X dX11_crossAlong_150 (by decide) rfl ?_
              refine j_lload X dX11_crossAlong_152 2 rfl ?_
              refine j_lstore (L' := [(6, .long (f2 a)), (4, .long (f1 a)), (8, .int 1), (14, .long (f2 a)), (12, .long (f1 a)), (11, .int (nI a)), (10, .int (nI b)), (0, .ref (q 0)), (1, .int (nI a)), (2, .int (nI b)), (3, .int (nI mm)), (9, .int 2)]) X dX11_crossAlong_154 (by decide) rfl ?_
              refine j_iinc (v := nI (mm + 1)) (L' := [(3, .int (nI (mm + 1))), (6, .long (f2 a)), (4, .long (f1 a)), (8, .int 1), (14, .long (f2 a)), (12, .long (f1 a)), (11, .int (nI a)), (10, .int (nI b)), (0, .ref (q 0)), (1, .int (nI a)), (2, .int (nI b)), (9, .int 2)]) X dX11_crossAlong_156 10 rfl (nI_s (by omega)) (by decide) rfl ?_
              refine j_iinc (v := 3) (L' := [(9, .int 3), (3, .int (nI (mm + 1))), (6, .long (f2 a)), (4, .long (f1 a)), (8, .int 1), (14, .long (f2 a)), (12, .long (f1 a)), (11, .int (nI a)), (10, .int (nI b)), (0, .ref (q 0)), (1, .int (nI a)), (2, .int (nI b))]) X dX11_crossAlong_159 11 rfl (by decide) (by decide) rfl ?_
              refine j_goto (tgt := 14) X dX11_crossAlong_162 (by decide) ?_
              refine j_sub [9, 10, 11, 1, 3, 2, 4, 0] rfl ?_
              exact ih 3 (mm + 1) (f1 a) (f2 a) 1 y4_sf_10 y5_sf_10 y6_sf_10 y7_sf_10 y8_sf_10 y9_sf_10 y10_sf_10 y11_sf_10 y12_sf_10 y13_sf_10 y14_sf_10 y15_sf_10 sf_10 (by omega) (by omega) (al_o (ho1 ▸ hI)) hS_sf_10 (by omega)
            · skip
              have ho0 : o = 0 := c_118
              refine j_iload_n X dX11_crossAlong_121 rfl 7 rfl ?_
              refine j_if_le (tgt := 145) X dX11_crossAlong_122 (by decide) (fun c_122 => ?_) (fun c_122 => ?_)
              · skip
                first | simp only [bI_0, Decidable.not_not, sg_mul, sg_e0, sg_l0, sg_g0, sg_le0, sg_ge0, cmp_eq, cmp_lt, cmp_ge, cmp_gt, cmp_le, lT0, lT1] at c_122 | simp only [Int32.le_iff_toInt_le, Int32.lt_iff_toInt_lt, ← Int32.toInt_inj, iT0, iT1, iT2, iT3, iT4, iT5, iT6, iT7, iT8, iT9, iT10, iT11, iT12, iT13, iT14, iT15, iT16, iT19, iT20, iT31, iT32, iT42, iT64, iT200, iT318, iT319, iT1000, iTm1, iTm2] at c_122 | skip
                rw [nI_T (by omega)] at c_122
                have hI0 : mm = 0 := by omega
                refine j_iconst (v := 0) X dX11_crossAlong_145 rfl ?_
                refine j_istore (L' := [(8, .int 0), (14, .long (f2 a)), (12, .long (f1 a)), (11, .int (nI a)), (10, .int (nI b)), (0, .ref (q 0)), (1, .int (nI a)), (2, .int (nI b)), (3, .int (nI mm)), (4, .long x), (6, .long y), (9, .int 2)]) X dX11_crossAlong_146 (by decide) rfl ?_
                refine j_lload X dX11_crossAlong_148 2 rfl ?_
                refine j_lstore (L' := [(4, .long (f1 a)), (8, .int 0), (14, .long (f2 a)), (12, .long (f1 a)), (11, .int (nI a)), (10, .int (nI b)), (0, .ref (q 0)), (1, .int (nI a)), (2, .int (nI b)), (3, .int (nI mm)), (6, .long y), (9, .int 2)]) X dX11_crossAlong_150 (by decide) rfl ?_
                refine j_lload X dX11_crossAlong_152 2 rfl ?_
                refine j_lstore (L' := [(6, .long (f2 a)), (4, .long (f1 a)), (8, .int 0), (14, .long (f2 a)), (12, .long (f1 a)), (11, .int (nI a)), (10, .int (nI b)), (0, .ref (q 0)), (1, .int (nI a)), (2, .int (nI b)), (3, .int (nI mm)), (9, .int 2)]) X dX11_crossAlong_154 (by decide) rfl ?_
                refine j_iinc (v := nI (mm + 1)) (L' := [(3, .int (nI (mm + 1))), (6, .long (f2 a)), (4, .long (f1 a)), (8, .int 0), (14, .long (f2 a)), (12, .long (f1 a)), (11, .int (nI a)), (10, .int (nI b)), (0, .ref (q 0)), (1, .int (nI a)), (2, .int (nI b)), (9, .int 2)]) X dX11_crossAlong_156 10 rfl (nI_s (by omega)) (by decide) rfl ?_
                refine j_iinc (v := 3) (L' := [(9, .int 3), (3, .int (nI (mm + 1))), (6, .long (f2 a)), (4, .long (f1 a)), (8, .int 0), (14, .long (f2 a)), (12, .long (f1 a)), (11, .int (nI a)), (10, .int (nI b)), (0, .ref (q 0)), (1, .int (nI a)), (2, .int (nI b))]) X dX11_crossAlong_159 11 rfl (by decide) (by decide) rfl ?_
                refine j_goto (tgt := 14) X dX11_crossAlong_162 (by decide) ?_
                refine j_sub [9, 10, 11, 1, 3, 2, 4, 0] rfl ?_
                exact ih 3 (mm + 1) (f1 a) (f2 a) 0 y4_sf_10 y5_sf_10 y6_sf_10 y7_sf_10 y8_sf_10 y9_sf_10 y10_sf_10 y11_sf_10 y12_sf_10 y13_sf_10 y14_sf_10 y15_sf_10 sf_10 (by omega) (by omega) (al_f hI0 hI c_58) hS_sf_10 (by omega)
              · skip
                first | simp only [bI_0, Decidable.not_not, sg_mul, sg_e0, sg_l0, sg_g0, sg_le0, sg_ge0, cmp_eq, cmp_lt, cmp_ge, cmp_gt, cmp_le, lT0, lT1] at c_122 | simp only [Int32.le_iff_toInt_le, Int32.lt_iff_toInt_lt, ← Int32.toInt_inj, iT0, iT1, iT2, iT3, iT4, iT5, iT6, iT7, iT8, iT9, iT10, iT11, iT12, iT13, iT14, iT15, iT16, iT19, iT20, iT31, iT32, iT42, iT64, iT200, iT318, iT319, iT1000, iTm1, iTm2] at c_122 | skip
                rw [nI_T (by omega)] at c_122
                have hm0 : 0 < mm := by omega
                refine j_lload X dX11_crossAlong_125 1 rfl ?_
                refine j_lload X dX11_crossAlong_127 8 rfl ?_
                refine j_lcmp X dX11_crossAlong_129 ?_
                refine j_if_ne (tgt := 141) X dX11_crossAlong_130 (by decide) (fun c_130 => ?_) (fun c_130 => ?_)
                · skip
                  first | simp only [bI_0, Decidable.not_not, sg_mul, sg_e0, sg_l0, sg_g0, sg_le0, sg_ge0, cmp_eq, cmp_lt, cmp_ge, cmp_gt, cmp_le, lT0, lT1] at c_130 | simp only [Int32.le_iff_toInt_le, Int32.lt_iff_toInt_lt, ← Int32.toInt_inj, iT0, iT1, iT2, iT3, iT4, iT5, iT6, iT7, iT8, iT9, iT10, iT11, iT12, iT13, iT14, iT15, iT16, iT19, iT20, iT31, iT32, iT42, iT64, iT200, iT318, iT319, iT1000, iTm1, iTm2] at c_130 | skip
                  refine j_iconst (v := 1) X dX11_crossAlong_141 rfl ?_
                  refine j_goto (tgt := 146) X dX11_crossAlong_142 (by decide) ?_
                  refine j_istore (L' := [(8, .int 1), (14, .long (f2 a)), (12, .long (f1 a)), (11, .int (nI a)), (10, .int (nI b)), (0, .ref (q 0)), (1, .int (nI a)), (2, .int (nI b)), (3, .int (nI mm)), (4, .long x), (6, .long y), (9, .int 2)]) X dX11_crossAlong_146 (by decide) rfl ?_
                  refine j_lload X dX11_crossAlong_148 2 rfl ?_
                  refine j_lstore (L' := [(4, .long (f1 a)), (8, .int 1), (14, .long (f2 a)), (12, .long (f1 a)), (11, .int (nI a)), (10, .int (nI b)), (0, .ref (q 0)), (1, .int (nI a)), (2, .int (nI b)), (3, .int (nI mm)), (6, .long y), (9, .int 2)]) X dX11_crossAlong_150 (by decide) rfl ?_
                  refine j_lload X dX11_crossAlong_152 2 rfl ?_
                  refine j_lstore (L' := [(6, .long (f2 a)), (4, .long (f1 a)), (8, .int 1), (14, .long (f2 a)), (12, .long (f1 a)), (11, .int (nI a)), (10, .int (nI b)), (0, .ref (q 0)), (1, .int (nI a)), (2, .int (nI b)), (3, .int (nI mm)), (9, .int 2)]) X dX11_crossAlong_154 (by decide) rfl ?_
                  refine j_iinc (v := nI (mm + 1)) (L' := [(3, .int (nI (mm + 1))), (6, .long (f2 a)), (4, .long (f1 a)), (8, .int 1), (14, .long (f2 a)), (12, .long (f1 a)), (11, .int (nI a)), (10, .int (nI b)), (0, .ref (q 0)), (1, .int (nI a)), (2, .int (nI b)), (9, .int 2)]) X dX11_crossAlong_156 10 rfl (nI_s (by omega)) (by decide) rfl ?_
                  refine j_iinc (v := 3) (L' := [(9, .int 3), (3, .int (nI (mm + 1))), (6, .long (f2 a)), (4, .long (f1 a)), (8, .int 1), (14, .long (f2 a)), (12, .long (f1 a)), (11, .int (nI a)), (10, .int (nI b)), (0, .ref (q 0)), (1, .int (nI a)), (2, .int (nI b))]) X dX11_crossAlong_159 11 rfl (by decide) (by decide) rfl ?_
                  refine j_goto (tgt := 14) X dX11_crossAlong_162 (by decide) ?_
                  refine j_sub [9, 10, 11, 1, 3, 2, 4, 0] rfl ?_
                  exact ih 3 (mm + 1) (f1 a) (f2 a) 1 y4_sf_10 y5_sf_10 y6_sf_10 y7_sf_10 y8_sf_10 y9_sf_10 y10_sf_10 y11_sf_10 y12_sf_10 y13_sf_10 y14_sf_10 y15_sf_10 sf_10 (by omega) (by omega) (al_d hm0 (ho0 ▸ hI) c_58 (fun h => c_130 h.1)) hS_sf_10 (by omega)
                · skip
                  first | simp only [bI_0, Decidable.not_not, sg_mul, sg_e0, sg_l0, sg_g0, sg_le0, sg_ge0, cmp_eq, cmp_lt, cmp_ge, cmp_gt, cmp_le, lT0, lT1] at c_130 | simp only [Int32.le_iff_toInt_le, Int32.lt_iff_toInt_lt, ← Int32.toInt_inj, iT0, iT1, iT2, iT3, iT4, iT5, iT6, iT7, iT8, iT9, iT10, iT11, iT12, iT13, iT14, iT15, iT16, iT19, iT20, iT31, iT32, iT42, iT64, iT200, iT318, iT319, iT1000, iTm1, iTm2] at c_130 | skip
                  refine j_lload X dX11_crossAlong_133 0 rfl ?_
                  refine j_lload X dX11_crossAlong_135 9 rfl ?_
                  refine j_lcmp X dX11_crossAlong_137 ?_
                  refine j_if_eq (tgt := 145) X dX11_crossAlong_138 (by decide) (fun c_138 => ?_) (fun c_138 => ?_)
                  · skip
                    first | simp only [bI_0, Decidable.not_not, sg_mul, sg_e0, sg_l0, sg_g0, sg_le0, sg_ge0, cmp_eq, cmp_lt, cmp_ge, cmp_gt, cmp_le, lT0, lT1] at c_138 | simp only [Int32.le_iff_toInt_le, Int32.lt_iff_toInt_lt, ← Int32.toInt_inj, iT0, iT1, iT2, iT3, iT4, iT5, iT6, iT7, iT8, iT9, iT10, iT11, iT12, iT13, iT14, iT15, iT16, iT19, iT20, iT31, iT32, iT42, iT64, iT200, iT318, iT319, iT1000, iTm1, iTm2] at c_138 | skip
                    refine j_iconst (v := 0) X dX11_crossAlong_145 rfl ?_
                    refine j_istore (L' := [(8, .int 0), (14, .long (f2 a)), (12, .long (f1 a)), (11, .int (nI a)), (10, .int (nI b)), (0, .ref (q 0)), (1, .int (nI a)), (2, .int (nI b)), (3, .int (nI mm)), (4, .long x), (6, .long y), (9, .int 2)]) X dX11_crossAlong_146 (by decide) rfl ?_
                    refine j_lload X dX11_crossAlong_148 2 rfl ?_
                    refine j_lstore (L' := [(4, .long (f1 a)), (8, .int 0), (14, .long (f2 a)), (12, .long (f1 a)), (11, .int (nI a)), (10, .int (nI b)), (0, .ref (q 0)), (1, .int (nI a)), (2, .int (nI b)), (3, .int (nI mm)), (6, .long y), (9, .int 2)]) X dX11_crossAlong_150 (by decide) rfl ?_
                    refine j_lload X dX11_crossAlong_152 2 rfl ?_
                    refine j_lstore (L' := [(6, .long (f2 a)), (4, .long (f1 a)), (8, .int 0), (14, .long (f2 a)), (12, .long (f1 a)), (11, .int (nI a)), (10, .int (nI b)), (0, .ref (q 0)), (1, .int (nI a)), (2, .int (nI b)), (3, .int (nI mm)), (9, .int 2)]) X dX11_crossAlong_154 (by decide) rfl ?_
                    refine j_iinc (v := nI (mm + 1)) (L' := [(3, .int (nI (mm + 1))), (6, .long (f2 a)), (4, .long (f1 a)), (8, .int 0), (14, .long (f2 a)), (12, .long (f1 a)), (11, .int (nI a)), (10, .int (nI b)), (0, .ref (q 0)), (1, .int (nI a)), (2, .int (nI b)), (9, .int 2)]) X dX11_crossAlong_156 10 rfl (nI_s (by omega)) (by decide) rfl ?_
                    refine j_iinc (v := 3) (L' := [(9, .int 3), (3, .int (nI (mm + 1))), (6, .long (f2 a)), (4, .long (f1 a)), (8, .int 0), (14, .long (f2 a)), (12, .long (f1 a)), (11, .int (nI a)), (10, .int (nI b)), (0, .ref (q 0)), (1, .int (nI a)), (2, .int (nI b))]) X dX11_crossAlong_159 11 rfl (by decide) (by decide) rfl ?_
                    refine j_goto (tgt := 14) X dX11_crossAlong_162 (by decide) ?_
                    refine j_sub [9, 10, 11, 1, 3, 2, 4, 0] rfl ?_
                    exact ih 3 (mm + 1) (f1 a) (f2 a) 0 y4_sf_10 y5_sf_10 y6_sf_10 y7_sf_10 y8_sf_10 y9_sf_10 y10_sf_10 y11_sf_10 y12_sf_10 y13_sf_10 y14_sf_10 y15_sf_10 sf_10 (by omega) (by omega) (al_s hm0 (ho0 ▸ hI) c_58 c_130 c_138) hS_sf_10 (by omega)
                  · skip
                    first | simp only [bI_0, Decidable.not_not, sg_mul, sg_e0, sg_l0, sg_g0, sg_le0, sg_ge0, cmp_eq, cmp_lt, cmp_ge, cmp_gt, cmp_le, lT0, lT1] at c_138 | simp only [Int32.le_iff_toInt_le, Int32.lt_iff_toInt_lt, ← Int32.toInt_inj, iT0, iT1, iT2, iT3, iT4, iT5, iT6, iT7, iT8, iT9, iT10, iT11, iT12, iT13, iT14, iT15, iT16, iT19, iT20, iT31, iT32, iT42, iT64, iT200, iT318, iT319, iT1000, iTm1, iTm2] at c_138 | skip
                    refine j_iconst (v := 1) X dX11_crossAlong_141 rfl ?_
                    refine j_goto (tgt := 146) X dX11_crossAlong_142 (by decide) ?_
                    refine j_istore (L' := [(8, .int 1), (14, .long (f2 a)), (12, .long (f1 a)), (11, .int (nI a)), (10, .int (nI b)), (0, .ref (q 0)), (1, .int (nI a)), (2, .int (nI b)), (3, .int (nI mm)), (4, .long x), (6, .long y), (9, .int 2)]) X dX11_crossAlong_146 (by decide) rfl ?_
                    refine j_lload X dX11_crossAlong_148 2 rfl ?_
                    refine j_lstore (L' := [(4, .long (f1 a)), (8, .int 1), (14, .long (f2 a)), (12, .long (f1 a)), (11, .int (nI a)), (10, .int (nI b)), (0, .ref (q 0)), (1, .int (nI a)), (2, .int (nI b)), (3, .int (nI mm)), (6, .long y), (9, .int 2)]) X dX11_crossAlong_150 (by decide) rfl ?_
                    refine j_lload X dX11_crossAlong_152 2 rfl ?_
                    refine j_lstore (L' := [(6, .long (f2 a)), (4, .long (f1 a)), (8, .int 1), (14, .long (f2 a)), (12, .long (f1 a)), (11, .int (nI a)), (10, .int (nI b)), (0, .ref (q 0)), (1, .int (nI a)), (2, .int (nI b)), (3, .int (nI mm)), (9, .int 2)]) X dX11_crossAlong_154 (by decide) rfl ?_
                    refine j_iinc (v := nI (mm + 1)) (L' := [(3, .int (nI (mm + 1))), (6, .long (f2 a)), (4, .long (f1 a)), (8, .int 1), (14, .long (f2 a)), (12, .long (f1 a)), (11, .int (nI a)), (10, .int (nI b)), (0, .ref (q 0)), (1, .int (nI a)), (2, .int (nI b)), (9, .int 2)]) X dX11_crossAlong_156 10 rfl (nI_s (by omega)) (by decide) rfl ?_
                    refine j_iinc (v := 3) (L' := [(9, .int 3), (3, .int (nI (mm + 1))), (6, .long (f2 a)), (4, .long (f1 a)), (8, .int 1), (14, .long (f2 a)), (12, .long (f1 a)), (11, .int (nI a)), (10, .int (nI b)), (0, .ref (q 0)), (1, .int (nI a)), (2, .int (nI b))]) X dX11_crossAlong_159 11 rfl (by decide) (by decide) rfl ?_
                    refine j_goto (tgt := 14) X dX11_crossAlong_162 (by decide) ?_
                    refine j_sub [9, 10, 11, 1, 3, 2, 4, 0] rfl ?_
                    exact ih 3 (mm + 1) (f1 a) (f2 a) 1 y4_sf_10 y5_sf_10 y6_sf_10 y7_sf_10 y8_sf_10 y9_sf_10 y10_sf_10 y11_sf_10 y12_sf_10 y13_sf_10 y14_sf_10 y15_sf_10 sf_10 (by omega) (by omega) (al_d hm0 (ho0 ▸ hI) c_58 (fun h => c_138 h.2)) hS_sf_10 (by omega)
          · skip
            first | simp only [bI_0, Decidable.not_not, sg_mul, sg_e0, sg_l0, sg_g0, sg_le0, sg_ge0, cmp_eq, cmp_lt, cmp_ge, cmp_gt, cmp_le, lT0, lT1] at c_58 | simp only [Int32.le_iff_toInt_le, Int32.lt_iff_toInt_lt, ← Int32.toInt_inj, iT0, iT1, iT2, iT3, iT4, iT5, iT6, iT7, iT8, iT9, iT10, iT11, iT12, iT13, iT14, iT15, iT16, iT19, iT20, iT31, iT32, iT42, iT64, iT200, iT318, iT319, iT1000, iTm1, iTm2] at c_58 | skip
            refine j_goto (tgt := 159) X dX11_crossAlong_61 (by decide) ?_
            refine j_iinc (v := 3) (L' := [(9, .int 3), (11, .int (nI a)), (10, .int (nI b)), (0, .ref (q 0)), (1, .int (nI a)), (2, .int (nI b)), (3, .int (nI mm)), (4, .long x), (6, .long y), (8, .int o)]) X dX11_crossAlong_159 9 rfl (by decide) (by decide) rfl ?_
            refine j_goto (tgt := 14) X dX11_crossAlong_162 (by decide) ?_
            refine j_sub [3, 4, 5, 6, 7, 8, 9, 0] rfl ?_
            exact ih 3 mm x y o y4_sf_10 y5_sf_10 y6_sf_10 y7_sf_10 y8_sf_10 y9_sf_10 y10_sf_10 y11_sf_10 y12_sf_10 y13_sf_10 y14_sf_10 y15_sf_10 sf_10 (by omega) (by omega) (al_no hI c_58) hS_sf_10 (by omega)
        · skip
          change J p l e rm_X11_crossAlong s m args below meth c Q G A 16 0 0 20 [(0, .ref (q 0)), (1, .int (nI a)), (2, .int (nI b)), (3, .int (nI mm)), (4, .long x), (6, .long y), (8, .int o), (9, .int 3)] [] [(q 0, .inr (10, mF t n q co cr 0 tx ty)), (q 2, aJ G 200 f1), (q 3, aJ G 200 f2), (q 4, aJ G 200 f3), (q 5, aJ G 200 f4), (q 10, aI G 320 (rg [z0, z1, z2, z3, a4, a5, a6, a7, a8, a9, a10, a11, a12, a13, a14, a15])), (q 11, aZ G 16 s2), (q 12, aI G 2 sig)]
          refine j_iload X dX11_crossAlong_20 7 rfl ?_
          refine j_iconst (v := 2) X dX11_crossAlong_22 rfl ?_
          refine j_icmp_ge (tgt := 30) X dX11_crossAlong_23 (by decide) (fun _ => ?_) (fun c9 => absurd c9 (by decide))
          refine j_iload_n X dX11_crossAlong_30 rfl 2 rfl ?_
          refine j_istore (L' := [(10, .int (nI b)), (0, .ref (q 0)), (1, .int (nI a)), (2, .int (nI b)), (3, .int (nI mm)), (4, .long x), (6, .long y), (8, .int o), (9, .int 3)]) X dX11_crossAlong_31 (by decide) rfl ?_
          refine j_iload X dX11_crossAlong_33 8 rfl ?_
          refine j_iconst (v := 2) X dX11_crossAlong_35 rfl ?_
          refine j_icmp_ge (tgt := 43) X dX11_crossAlong_36 (by decide) (fun _ => ?_) (fun c9 => absurd c9 (by decide))
          refine j_iload_n X dX11_crossAlong_43 rfl 2 rfl ?_
          refine j_istore (L' := [(11, .int (nI a)), (10, .int (nI b)), (0, .ref (q 0)), (1, .int (nI a)), (2, .int (nI b)), (3, .int (nI mm)), (4, .long x), (6, .long y), (8, .int o), (9, .int 3)]) X dX11_crossAlong_44 (by decide) rfl ?_
          refine j_aload_n X dX11_crossAlong_46 rfl 2 rfl ?_
          refine j_iload X dX11_crossAlong_47 1 rfl ?_
          refine j_iload X dX11_crossAlong_49 0 rfl ?_
          refine j_iload X dX11_crossAlong_51 9 rfl ?_
          refine j_iconst (v := 2) X dX11_crossAlong_53 rfl ?_
          refine j_irem X dX11_crossAlong_54 (by decide) ?_
          rw [show (3 : Int32) - 3 / 2 * 2 = 1 from by decide]
          refine j_callV X dX11_crossAlong_55 (c_X11_hasEnd_1 l G q t n co cr 0 tx ty [z0, z1, z2, z3, a4, a5, a6, a7, a8, a9, a10, a11, a12, a13, a14, a15] rfl s2 hS2 f1 f2 f3 f4 b a bb gb ba ga) gX11_crossAlong_X11_hasEnd rfl hy_X11_hasEnd_V ⟨Nat.le_of_ble_eq_true rfl, Nat.le_of_ble_eq_true rfl⟩ 0 rfl rfl [0, 1, 2, 3, 4, 5, 6] rfl (by decide) rfl rfl (Nat.le_of_ble_eq_true rfl) ⟨Nat.le_of_ble_eq_true rfl, Nat.le_of_ble_eq_true rfl⟩ ?_
          rintro _ ⟨zs_13, sf_12⟩ ⟨rfl, hk_sf_12, hS_sf_12⟩
          obtain ⟨y4_sf_12, y5_sf_12, y6_sf_12, y7_sf_12, y8_sf_12, y9_sf_12, y10_sf_12, y11_sf_12, y12_sf_12, y13_sf_12, y14_sf_12, y15_sf_12, rfl⟩ := kp_4 hk_sf_12
          change J p l e rm_X11_crossAlong s m args below meth c Q G A 16 0 0 58 [(11, .int (nI a)), (10, .int (nI b)), (0, .ref (q 0)), (1, .int (nI a)), (2, .int (nI b)), (3, .int (nI mm)), (4, .long x), (6, .long y), (8, .int o), (9, .int 3)] [.int (bI (onS (f1 b).toInt (f2 b).toInt (f3 b).toInt (f4 b).toInt (f3 a).toInt (f4 a).toInt))] [(q 0, .inr (10, mF t n q co cr 0 tx ty)), (q 2, aJ G 200 f1), (q 3, aJ G 200 f2), (q 4, aJ G 200 f3), (q 5, aJ G 200 f4), (q 10, aI G 320 (rg [z0, z1, z2, z3, y4_sf_12, y5_sf_12, y6_sf_12, y7_sf_12, y8_sf_12, y9_sf_12, y10_sf_12, y11_sf_12, y12_sf_12, y13_sf_12, y14_sf_12, y15_sf_12])), (q 11, aZ G 16 sf_12), (q 12, aI G 2 sig)]
          refine j_if_ne (tgt := 64) X dX11_crossAlong_58 (by decide) (fun c_58 => ?_) (fun c_58 => ?_)
          · skip
            first | simp only [bI_0, Decidable.not_not, sg_mul, sg_e0, sg_l0, sg_g0, sg_le0, sg_ge0, cmp_eq, cmp_lt, cmp_ge, cmp_gt, cmp_le, lT0, lT1] at c_58 | simp only [Int32.le_iff_toInt_le, Int32.lt_iff_toInt_lt, ← Int32.toInt_inj, iT0, iT1, iT2, iT3, iT4, iT5, iT6, iT7, iT8, iT9, iT10, iT11, iT12, iT13, iT14, iT15, iT16, iT19, iT20, iT31, iT32, iT42, iT64, iT200, iT318, iT319, iT1000, iTm1, iTm2] at c_58 | skip
            refine j_iload X dX11_crossAlong_64 9 rfl ?_
            refine j_iconst (v := 2) X dX11_crossAlong_66 rfl ?_
            refine j_irem X dX11_crossAlong_67 (by decide) ?_
            rw [show (3 : Int32) - 3 / 2 * 2 = 1 from by decide]
            refine j_if_ne (tgt := 81) X dX11_crossAlong_68 (by decide) (fun _ => ?_) (fun c9 => absurd c9 (by decide))
            refine j_aload_n X dX11_crossAlong_81 rfl 2 rfl ?_
            refine j_get (v := .ref (q 4)) X dX11_crossAlong_82 0 rfl 5 rfl in_X11_crossAlong_X11 (by decide) fl_X11_crossAlong_20 rfl ?_
            refine j_iload X dX11_crossAlong_85 0 rfl ?_
            refine j_lald X dX11_crossAlong_87 3 rfl a rfl ga (by decide) ?_
            refine j_lstore (L' := [(12, .long (f3 a)), (11, .int (nI a)), (10, .int (nI b)), (0, .ref (q 0)), (1, .int (nI a)), (2, .int (nI b)), (3, .int (nI mm)), (4, .long x), (6, .long y), (8, .int o), (9, .int 3)]) X dX11_crossAlong_88 (by decide) rfl ?_
            refine j_iload X dX11_crossAlong_90 10 rfl ?_
            refine j_iconst (v := 2) X dX11_crossAlong_92 rfl ?_
            refine j_irem X dX11_crossAlong_93 (by decide) ?_
            rw [show (3 : Int32) - 3 / 2 * 2 = 1 from by decide]
            refine j_if_ne (tgt := 107) X dX11_crossAlong_94 (by decide) (fun _ => ?_) (fun c9 => absurd c9 (by decide))
            refine j_aload_n X dX11_crossAlong_107 rfl 3 rfl ?_
            refine j_get (v := .ref (q 5)) X dX11_crossAlong_108 0 rfl 6 rfl in_X11_crossAlong_X11 (by decide) fl_X11_crossAlong_23 rfl ?_
            refine j_iload X dX11_crossAlong_111 1 rfl ?_
            refine j_lald X dX11_crossAlong_113 4 rfl a rfl ga (by decide) ?_
            refine j_lstore (L' := [(14, .long (f4 a)), (12, .long (f3 a)), (11, .int (nI a)), (10, .int (nI b)), (0, .ref (q 0)), (1, .int (nI a)), (2, .int (nI b)), (3, .int (nI mm)), (4, .long x), (6, .long y), (8, .int o), (9, .int 3)]) X dX11_crossAlong_114 (by decide) rfl ?_
            refine j_iload X dX11_crossAlong_116 10 rfl ?_
            refine j_if_ne (tgt := 141) X dX11_crossAlong_118 (by decide) (fun c_118 => ?_) (fun c_118 => ?_)
            · skip
              have ho1 : o = 1 := by rcases hI with h | h | h; exact absurd h.2.1 c_118; exact absurd h.2.1 c_118; exact h.2.1
              refine j_iconst (v := 1) X dX11_crossAlong_141 rfl ?_
              refine j_goto (tgt := 146) X dX11_crossAlong_142 (by decide) ?_
              refine j_istore (L' := [(8, .int 1), (14, .long (f4 a)), (12, .long (f3 a)), (11, .int (nI a)), (10, .int (nI b)), (0, .ref (q 0)), (1, .int (nI a)), (2, .int (nI b)), (3, .int (nI mm)), (4, .long x), (6, .long y), (9, .int 3)]) X dX11_crossAlong_146 (by decide) rfl ?_
              refine j_lload X dX11_crossAlong_148 2 rfl ?_
              refine j_lstore (L' := [(4, .long (f3 a)), (8, .int 1), (14, .long (f4 a)), (12, .long (f3 a)), (11, .int (nI a)), (10, .int (nI b)), (0, .ref (q 0)), (1, .int (nI a)), (2, .int (nI b)), (3, .int (nI mm)), (6, .long y), (9, .int 3)]) X dX11_crossAlong_150 (by decide) rfl ?_
              refine j_lload X dX11_crossAlong_152 2 rfl ?_
              refine j_lstore (L' := [(6, .long (f4 a)), (4, .long (f3 a)), (8, .int 1), (14, .long (f4 a)), (12, .long (f3 a)), (11, .int (nI a)), (10, .int (nI b)), (0, .ref (q 0)), (1, .int (nI a)), (2, .int (nI b)), (3, .int (nI mm)), (9, .int 3)]) X dX11_crossAlong_154 (by decide) rfl ?_
              refine j_iinc (v := nI (mm + 1)) (L' := [(3, .int (nI (mm + 1))), (6, .long (f4 a)), (4, .long (f3 a)), (8, .int 1), (14, .long (f4 a)), (12, .long (f3 a)), (11, .int (nI a)), (10, .int (nI b)), (0, .ref (q 0)), (1, .int (nI a)), (2, .int (nI b)), (9, .int 3)]) X dX11_crossAlong_156 10 rfl (nI_s (by omega)) (by decide) rfl ?_
              refine j_iinc (v := 4) (L' := [(9, .int 4), (3, .int (nI (mm + 1))), (6, .long (f4 a)), (4, .long (f3 a)), (8, .int 1), (14, .long (f4 a)), (12, .long (f3 a)), (11, .int (nI a)), (10, .int (nI b)), (0, .ref (q 0)), (1, .int (nI a)), (2, .int (nI b))]) X dX11_crossAlong_159 11 rfl (by decide) (by decide) rfl ?_
              refine j_goto (tgt := 14) X dX11_crossAlong_162 (by decide) ?_
              refine j_sub [9, 10, 11, 1, 3, 2, 4, 0] rfl ?_
              exact ih 4 (mm + 1) (f3 a) (f4 a) 1 y4_sf_12 y5_sf_12 y6_sf_12 y7_sf_12 y8_sf_12 y9_sf_12 y10_sf_12 y11_sf_12 y12_sf_12 y13_sf_12 y14_sf_12 y15_sf_12 sf_12 (by omega) (by omega) (al_o (ho1 ▸ hI)) hS_sf_12 (by omega)
            · skip
              have ho0 : o = 0 := c_118
              refine j_iload_n X dX11_crossAlong_121 rfl 7 rfl ?_
              refine j_if_le (tgt := 145) X dX11_crossAlong_122 (by decide) (fun c_122 => ?_) (fun c_122 => ?_)
              · skip
                first | simp only [bI_0, Decidable.not_not, sg_mul, sg_e0, sg_l0, sg_g0, sg_le0, sg_ge0, cmp_eq, cmp_lt, cmp_ge, cmp_gt, cmp_le, lT0, lT1] at c_122 | simp only [Int32.le_iff_toInt_le, Int32.lt_iff_toInt_lt, ← Int32.toInt_inj, iT0, iT1, iT2, iT3, iT4, iT5, iT6, iT7, iT8, iT9, iT10, iT11, iT12, iT13, iT14, iT15, iT16, iT19, iT20, iT31, iT32, iT42, iT64, iT200, iT318, iT319, iT1000, iTm1, iTm2] at c_122 | skip
                rw [nI_T (by omega)] at c_122
                have hI0 : mm = 0 := by omega
                refine j_iconst (v := 0) X dX11_crossAlong_145 rfl ?_
                refine j_istore (L' := [(8, .int 0), (14, .long (f4 a)), (12, .long (f3 a)), (11, .int (nI a)), (10, .int (nI b)), (0, .ref (q 0)), (1, .int (nI a)), (2, .int (nI b)), (3, .int (nI mm)), (4, .long x), (6, .long y), (9, .int 3)]) X dX11_crossAlong_146 (by decide) rfl ?_
                refine j_lload X dX11_crossAlong_148 2 rfl ?_
                refine j_lstore (L' := [(4, .long (f3 a)), (8, .int 0), (14, .long (f4 a)), (12, .long (f3 a)), (11, .int (nI a)), (10, .int (nI b)), (0, .ref (q 0)), (1, .int (nI a)), (2, .int (nI b)), (3, .int (nI mm)), (6, .long y), (9, .int 3)]) X dX11_crossAlong_150 (by decide) rfl ?_
                refine j_lload X dX11_crossAlong_152 2 rfl ?_
                refine j_lstore (L' := [(6, .long (f4 a)), (4, .long (f3 a)), (8, .int 0), (14, .long (f4 a)), (12, .long (f3 a)), (11, .int (nI a)), (10, .int (nI b)), (0, .ref (q 0)), (1, .int (nI a)), (2, .int (nI b)), (3, .int (nI mm)), (9, .int 3)]) X dX11_crossAlong_154 (by decide) rfl ?_
                refine j_iinc (v := nI (mm + 1)) (L' := [(3, .int (nI (mm + 1))), (6, .long (f4 a)), (4, .long (f3 a)), (8, .int 0), (14, .long (f4 a)), (12, .long (f3 a)), (11, .int (nI a)), (10, .int (nI b)), (0, .ref (q 0)), (1, .int (nI a)), (2, .int (nI b)), (9, .int 3)]) X dX11_crossAlong_156 10 rfl (nI_s (by omega)) (by decide) rfl ?_
                refine j_iinc (v := 4) (L' := [(9, .int 4), (3, .int (nI (mm + 1))), (6, .long (f4 a)), (4, .long (f3 a)), (8, .int 0), (14, .long (f4 a)), (12, .long (f3 a)), (11, .int (nI a)), (10, .int (nI b)), (0, .ref (q 0)), (1, .int (nI a)), (2, .int (nI b))]) X dX11_crossAlong_159 11 rfl (by decide) (by decide) rfl ?_
                refine j_goto (tgt := 14) X dX11_crossAlong_162 (by decide) ?_
                refine j_sub [9, 10, 11, 1, 3, 2, 4, 0] rfl ?_
                exact ih 4 (mm + 1) (f3 a) (f4 a) 0 y4_sf_12 y5_sf_12 y6_sf_12 y7_sf_12 y8_sf_12 y9_sf_12 y10_sf_12 y11_sf_12 y12_sf_12 y13_sf_12 y14_sf_12 y15_sf_12 sf_12 (by omega) (by omega) (al_f hI0 hI c_58) hS_sf_12 (by omega)
              · skip
                first | simp only [bI_0, Decidable.not_not, sg_mul, sg_e0, sg_l0, sg_g0, sg_le0, sg_ge0, cmp_eq, cmp_lt, cmp_ge, cmp_gt, cmp_le, lT0, lT1] at c_122 | simp only [Int32.le_iff_toInt_le, Int32.lt_iff_toInt_lt, ← Int32.toInt_inj, iT0, iT1, iT2, iT3, iT4, iT5, iT6, iT7, iT8, iT9, iT10, iT11, iT12, iT13, iT14, iT15, iT16, iT19, iT20, iT31, iT32, iT42, iT64, iT200, iT318, iT319, iT1000, iTm1, iTm2] at c_122 | skip
                rw [nI_T (by omega)] at c_122
                have hm0 : 0 < mm := by omega
                refine j_lload X dX11_crossAlong_125 1 rfl ?_
                refine j_lload X dX11_crossAlong_127 8 rfl ?_
                refine j_lcmp X dX11_crossAlong_129 ?_
                refine j_if_ne (tgt := 141) X dX11_crossAlong_130 (by decide) (fun c_130 => ?_) (fun c_130 => ?_)
                · skip
                  first | simp only [bI_0, Decidable.not_not, sg_mul, sg_e0, sg_l0, sg_g0, sg_le0, sg_ge0, cmp_eq, cmp_lt, cmp_ge, cmp_gt, cmp_le, lT0, lT1] at c_130 | simp only [Int32.le_iff_toInt_le, Int32.lt_iff_toInt_lt, ← Int32.toInt_inj, iT0, iT1, iT2, iT3, iT4, iT5, iT6, iT7, iT8, iT9, iT10, iT11, iT12, iT13, iT14, iT15, iT16, iT19, iT20, iT31, iT32, iT42, iT64, iT200, iT318, iT319, iT1000, iTm1, iTm2] at c_130 | skip
                  refine j_iconst (v := 1) X dX11_crossAlong_141 rfl ?_
                  refine j_goto (tgt := 146) X dX11_crossAlong_142 (by decide) ?_
                  refine j_istore (L' := [(8, .int 1), (14, .long (f4 a)), (12, .long (f3 a)), (11, .int (nI a)), (10, .int (nI b)), (0, .ref (q 0)), (1, .int (nI a)), (2, .int (nI b)), (3, .int (nI mm)), (4, .long x), (6, .long y), (9, .int 3)]) X dX11_crossAlong_146 (by decide) rfl ?_
                  refine j_lload X dX11_crossAlong_148 2 rfl ?_
                  refine j_lstore (L' := [(4, .long (f3 a)), (8, .int 1), (14, .long (f4 a)), (12, .long (f3 a)), (11, .int (nI a)), (10, .int (nI b)), (0, .ref (q 0)), (1, .int (nI a)), (2, .int (nI b)), (3, .int (nI mm)), (6, .long y), (9, .int 3)]) X dX11_crossAlong_150 (by decide) rfl ?_
                  refine j_lload X dX11_crossAlong_152 2 rfl ?_
                  refine j_lstore (L' := [(6, .long (f4 a)), (4, .long (f3 a)), (8, .int 1), (14, .long (f4 a)), (12, .long (f3 a)), (11, .int (nI a)), (10, .int (nI b)), (0, .ref (q 0)), (1, .int (nI a)), (2, .int (nI b)), (3, .int (nI mm)), (9, .int 3)]) X dX11_crossAlong_154 (by decide) rfl ?_
                  refine j_iinc (v := nI (mm + 1)) (L' := [(3, .int (nI (mm + 1))), (6, .long (f4 a)), (4, .long (f3 a)), (8, .int 1), (14, .long (f4 a)), (12, .long (f3 a)), (11, .int (nI a)), (10, .int (nI b)), (0, .ref (q 0)), (1, .int (nI a)), (2, .int (nI b)), (9, .int 3)]) X dX11_crossAlong_156 10 rfl (nI_s (by omega)) (by decide) rfl ?_
                  refine j_iinc (v := 4) (L' := [(9, .int 4), (3, .int (nI (mm + 1))), (6, .long (f4 a)), (4, .long (f3 a)), (8, .int 1), (14, .long (f4 a)), (12, .long (f3 a)), (11, .int (nI a)), (10, .int (nI b)), (0, .ref (q 0)), (1, .int (nI a)), (2, .int (nI b))]) X dX11_crossAlong_159 11 rfl (by decide) (by decide) rfl ?_
                  refine j_goto (tgt := 14) X dX11_crossAlong_162 (by decide) ?_
                  refine j_sub [9, 10, 11, 1, 3, 2, 4, 0] rfl ?_
                  exact ih 4 (mm + 1) (f3 a) (f4 a) 1 y4_sf_12 y5_sf_12 y6_sf_12 y7_sf_12 y8_sf_12 y9_sf_12 y10_sf_12 y11_sf_12 y12_sf_12 y13_sf_12 y14_sf_12 y15_sf_12 sf_12 (by omega) (by omega) (al_d hm0 (ho0 ▸ hI) c_58 (fun h => c_130 h.1)) hS_sf_12 (by omega)
                · skip
                  first | simp only [bI_0, Decidable.not_not, sg_mul, sg_e0, sg_l0, sg_g0, sg_le0, sg_ge0, cmp_eq, cmp_lt, cmp_ge, cmp_gt, cmp_le, lT0, lT1] at c_130 | simp only [Int32.le_iff_toInt_le, Int32.lt_iff_toInt_lt, ← Int32.toInt_inj, iT0, iT1, iT2, iT3, iT4, iT5, iT6, iT7, iT8, iT9, iT10, iT11, iT12, iT13, iT14, iT15, iT16, iT19, iT20, iT31, iT32, iT42, iT64, iT200, iT318, iT319, iT1000, iTm1, iTm2] at c_130 | skip
                  refine j_lload X dX11_crossAlong_133 0 rfl ?_
                  refine j_lload X dX11_crossAlong_135 9 rfl ?_
                  refine j_lcmp X dX11_crossAlong_137 ?_
                  refine j_if_eq (tgt := 145) X dX11_crossAlong_138 (by decide) (fun c_138 => ?_) (fun c_138 => ?_)
                  · skip
                    first | simp only [bI_0, Decidable.not_not, sg_mul, sg_e0, sg_l0, sg_g0, sg_le0, sg_ge0, cmp_eq, cmp_lt, cmp_ge, cmp_gt, cmp_le, lT0, lT1] at c_138 | simp only [Int32.le_iff_toInt_le, Int32.lt_iff_toInt_lt, ← Int32.toInt_inj, iT0, iT1, iT2, iT3, iT4, iT5, iT6, iT7, iT8, iT9, iT10, iT11, iT12, iT13, iT14, iT15, iT16, iT19, iT20, iT31, iT32, iT42, iT64, iT200, iT318, iT319, iT1000, iTm1, iTm2] at c_138 | skip
                    refine j_iconst (v := 0) X dX11_crossAlong_145 rfl ?_
                    refine j_istore (L' := [(8, .int 0), (14, .long (f4 a)), (12, .long (f3 a)), (11, .int (nI a)), (10, .int (nI b)), (0, .ref (q 0)), (1, .int (nI a)), (2, .int (nI b)), (3, .int (nI mm)), (4, .long x), (6, .long y), (9, .int 3)]) X dX11_crossAlong_146 (by decide) rfl ?_
                    refine j_lload X dX11_crossAlong_148 2 rfl ?_
                    refine j_lstore (L' := [(4, .long (f3 a)), (8, .int 0), (14, .long (f4 a)), (12, .long (f3 a)), (11, .int (nI a)), (10, .int (nI b)), (0, .ref (q 0)), (1, .int (nI a)), (2, .int (nI b)), (3, .int (nI mm)), (6, .long y), (9, .int 3)]) X dX11_crossAlong_150 (by decide) rfl ?_
                    refine j_lload X dX11_crossAlong_152 2 rfl ?_
                    refine j_lstore (L' := [(6, .long (f4 a)), (4, .long (f3 a)), (8, .int 0), (14, .long (f4 a)), (12, .long (f3 a)), (11, .int (nI a)), (10, .int (nI b)), (0, .ref (q 0)), (1, .int (nI a)), (2, .int (nI b)), (3, .int (nI mm)), (9, .int 3)]) X dX11_crossAlong_154 (by decide) rfl ?_
                    refine j_iinc (v := nI (mm + 1)) (L' := [(3, .int (nI (mm + 1))), (6, .long (f4 a)), (4, .long (f3 a)), (8, .int 0), (14, .long (f4 a)), (12, .long (f3 a)), (11, .int (nI a)), (10, .int (nI b)), (0, .ref (q 0)), (1, .int (nI a)), (2, .int (nI b)), (9, .int 3)]) X dX11_crossAlong_156 10 rfl (nI_s (by omega)) (by decide) rfl ?_
                    refine j_iinc (v := 4) (L' := [(9, .int 4), (3, .int (nI (mm + 1))), (6, .long (f4 a)), (4, .long (f3 a)), (8, .int 0), (14, .long (f4 a)), (12, .long (f3 a)), (11, .int (nI a)), (10, .int (nI b)), (0, .ref (q 0)), (1, .int (nI a)), (2, .int (nI b))]) X dX11_crossAlong_159 11 rfl (by decide) (by decide) rfl ?_
                    refine j_goto (tgt := 14) X dX11_crossAlong_162 (by decide) ?_
                    refine j_sub [9, 10, 11, 1, 3, 2, 4, 0] rfl ?_
                    exact ih 4 (mm + 1) (f3 a) (f4 a) 0 y4_sf_12 y5_sf_12 y6_sf_12 y7_sf_12 y8_sf_12 y9_sf_12 y10_sf_12 y11_sf_12 y12_sf_12 y13_sf_12 y14_sf_12 y15_sf_12 sf_12 (by omega) (by omega) (al_s hm0 (ho0 ▸ hI) c_58 c_130 c_138) hS_sf_12 (by omega)
                  · skip
                    first | simp only [bI_0, Decidable.not_not, sg_mul, sg_e0, sg_l0, sg_g0, sg_le0, sg_ge0, cmp_eq, cmp_lt, cmp_ge, cmp_gt, cmp_le, lT0, lT1] at c_138 | simp only [Int32.le_iff_toInt_le, Int32.lt_iff_toInt_lt, ← Int32.toInt_inj, iT0, iT1, iT2, iT3, iT4, iT5, iT6, iT7, iT8, iT9, iT10, iT11, iT12, iT13, iT14, iT15, iT16, iT19, iT20, iT31, iT32, iT42, iT64, iT200, iT318, iT319, iT1000, iTm1, iTm2] at c_138 | skip
                    refine j_iconst (v := 1) X dX11_crossAlong_141 rfl ?_
                    refine j_goto (tgt := 146) X dX11_crossAlong_142 (by decide) ?_
                    refine j_istore (L' := [(8, .int 1), (14, .long (f4 a)), (12, .long (f3 a)), (11, .int (nI a)), (10, .int (nI b)), (0, .ref (q 0)), (1, .int (nI a)), (2, .int (nI b)), (3, .int (nI mm)), (4, .long x), (6, .long y), (9, .int 3)]) X dX11_crossAlong_146 (by decide) rfl ?_
                    refine j_lload X dX11_crossAlong_148 2 rfl ?_
                    refine j_lstore (L' := [(4, .long (f3 a)), (8, .int 1), (14, .long (f4 a)), (12, .long (f3 a)), (11, .int (nI a)), (10, .int (nI b)), (0, .ref (q 0)), (1, .int (nI a)), (2, .int (nI b)), (3, .int (nI mm)), (6, .long y), (9, .int 3)]) X dX11_crossAlong_150 (by decide) rfl ?_
                    refine j_lload X dX11_crossAlong_152 2 rfl ?_
                    refine j_lstore (L' := [(6, .long (f4 a)), (4, .long (f3 a)), (8, .int 1), (14, .long (f4 a)), (12, .long (f3 a)), (11, .int (nI a)), (10, .int (nI b)), (0, .ref (q 0)), (1, .int (nI a)), (2, .int (nI b)), (3, .int (nI mm)), (9, .int 3)]) X dX11_crossAlong_154 (by decide) rfl ?_
                    refine j_iinc (v := nI (mm + 1)) (L' := [(3, .int (nI (mm + 1))), (6, .long (f4 a)), (4, .long (f3 a)), (8, .int 1), (14, .long (f4 a)), (12, .long (f3 a)), (11, .int (nI a)), (10, .int (nI b)), (0, .ref (q 0)), (1, .int (nI a)), (2, .int (nI b)), (9, .int 3)]) X dX11_crossAlong_156 10 rfl (nI_s (by omega)) (by decide) rfl ?_
                    refine j_iinc (v := 4) (L' := [(9, .int 4), (3, .int (nI (mm + 1))), (6, .long (f4 a)), (4, .long (f3 a)), (8, .int 1), (14, .long (f4 a)), (12, .long (f3 a)), (11, .int (nI a)), (10, .int (nI b)), (0, .ref (q 0)), (1, .int (nI a)), (2, .int (nI b))]) X dX11_crossAlong_159 11 rfl (by decide) (by decide) rfl ?_
                    refine j_goto (tgt := 14) X dX11_crossAlong_162 (by decide) ?_
                    refine j_sub [9, 10, 11, 1, 3, 2, 4, 0] rfl ?_
                    exact ih 4 (mm + 1) (f3 a) (f4 a) 1 y4_sf_12 y5_sf_12 y6_sf_12 y7_sf_12 y8_sf_12 y9_sf_12 y10_sf_12 y11_sf_12 y12_sf_12 y13_sf_12 y14_sf_12 y15_sf_12 sf_12 (by omega) (by omega) (al_d hm0 (ho0 ▸ hI) c_58 (fun h => c_138 h.2)) hS_sf_12 (by omega)
          · skip
            first | simp only [bI_0, Decidable.not_not, sg_mul, sg_e0, sg_l0, sg_g0, sg_le0, sg_ge0, cmp_eq, cmp_lt, cmp_ge, cmp_gt, cmp_le, lT0, lT1] at c_58 | simp only [Int32.le_iff_toInt_le, Int32.lt_iff_toInt_lt, ← Int32.toInt_inj, iT0, iT1, iT2, iT3, iT4, iT5, iT6, iT7, iT8, iT9, iT10, iT11, iT12, iT13, iT14, iT15, iT16, iT19, iT20, iT31, iT32, iT42, iT64, iT200, iT318, iT319, iT1000, iTm1, iTm2] at c_58 | skip
            refine j_goto (tgt := 159) X dX11_crossAlong_61 (by decide) ?_
            refine j_iinc (v := 4) (L' := [(9, .int 4), (11, .int (nI a)), (10, .int (nI b)), (0, .ref (q 0)), (1, .int (nI a)), (2, .int (nI b)), (3, .int (nI mm)), (4, .long x), (6, .long y), (8, .int o)]) X dX11_crossAlong_159 9 rfl (by decide) (by decide) rfl ?_
            refine j_goto (tgt := 14) X dX11_crossAlong_162 (by decide) ?_
            refine j_sub [3, 4, 5, 6, 7, 8, 9, 0] rfl ?_
            exact ih 4 mm x y o y4_sf_12 y5_sf_12 y6_sf_12 y7_sf_12 y8_sf_12 y9_sf_12 y10_sf_12 y11_sf_12 y12_sf_12 y13_sf_12 y14_sf_12 y15_sf_12 sf_12 (by omega) (by omega) (al_no hI c_58) hS_sf_12 (by omega)
  refine j_sub [5, 6, 7, 4, 3, 2, 1, 0] rfl ?_
  exact loop 5 0 0 0 0 0 z4 z5 z6 z7 z8 z9 z10 z11 z12 z13 z14 z15 sf (by omega) (by omega) al_0 hS (by omega)

theorem hy_X11_crossAlong_V : yX11_crossAlong.cls = RX11 ∧ yX11_crossAlong.cls ≠ "java/lang/invoke/MethodHandle" ∧ yX11_crossAlong.cls ≠ "java/lang/invoke/VarHandle" ∧ (parseMethodDescriptor yX11_crossAlong.desc).map (fun d => d.parameters.length) = some 2 := by decide +kernel
