/-! the law begins -/
def qz (o : Nat) (q : Nat → Nat) : Nat → Nat
  | 0 => o
  | n + 1 => q (n + 1)
theorem rg_0 (j : Nat) : (0 : Int32) = rg (List.replicate 16 0) j := by
  have e : zA (List.replicate 16 0) (j / 20) = 0 := by
    unfold zA
    rw [List.getD_eq_getElem?_getD, List.getElem?_replicate]
    split <;> rfl
  unfold rg eg
  rw [e, Int.zero_ediv]
  rfl
theorem okS_0 : okS (List.replicate 16 0) (fun _ => 0) := fun r _ => Or.inl ⟨rfl, by
  rw [List.getD_eq_getElem?_getD, List.getElem?_replicate]
  split <;> exact Int.le_refl _⟩
theorem df_X10 : ∀ j, j < 8 → defaultValue (tyX10 j) = vp_V [.null, .int 0, .null, .null, .null, .null, .null, .null] j := fun j hj => by
  rcases (show j = 0 ∨ j = 1 ∨ j = 2 ∨ j = 3 ∨ j = 4 ∨ j = 5 ∨ j = 6 ∨ j = 7 by omega) with rfl | rfl | rfl | rfl | rfl | rfl | rfl | rfl <;> rfl
theorem df_X11 : ∀ j, j < 19 → defaultValue (tyX11 j) = vp_V [.int 0, .int 0, .null, .null, .null, .null, .null, .null, .null, .int 0, .null, .null, .null, .null, .int 0, .int 0, .null, .long 0, .long 0] j := fun j hj => by
  rcases (show j = 0 ∨ j = 1 ∨ j = 2 ∨ j = 3 ∨ j = 4 ∨ j = 5 ∨ j = 6 ∨ j = 7 ∨ j = 8 ∨ j = 9 ∨ j = 10 ∨ j = 11 ∨ j = 12 ∨ j = 13 ∨ j = 14 ∨ j = 15 ∨ j = 16 ∨ j = 17 ∨ j = 18 by omega) with rfl | rfl | rfl | rfl | rfl | rfl | rfl | rfl | rfl | rfl | rfl | rfl | rfl | rfl | rfl | rfl | rfl | rfl | rfl <;> rfl
theorem nw_L_8 : (Cond.classLink RL 8 RX10 ∈ wsL_law) ∧ (Cond.instantiable RX10 8 ∈ wsL_law) ∧ (Cond.initialized RX10 ∈ wsL_law) := by decide +kernel
theorem nw_L_65 : (Cond.classLink RL 65 RX11 ∈ wsL_law) ∧ (Cond.instantiable RX11 19 ∈ wsL_law) ∧ (Cond.initialized RX11 ∈ wsL_law) := by decide +kernel
theorem in_L_X10 : ∀ w ∈ u_ws RX10 TX10 8, w ∈ wsL_law := by decide +kernel
theorem in_L_X11 : ∀ w ∈ u_ws RX11 TX11 19, w ∈ wsL_law := by decide +kernel
theorem ii_L_X10 : (Cond.initialized yX10_init.cls ∈ wsL_law) ∧ (Cond.methodLink RL 64 yX10_init ∈ wsL_law) ∧ (Cond.instanceMethod yX10_init ∈ wsL_law) := by decide +kernel
theorem ii_L_X11 : (Cond.initialized yX11_init.cls ∈ wsL_law) ∧ (Cond.methodLink RL 67 yX11_init ∈ wsL_law) ∧ (Cond.instanceMethod yX11_init ∈ wsL_law) := by decide +kernel
theorem na_L_long : Cond.arrayClass .long ∈ wsL_law := by decide +kernel
section LS
variable {p : Program} {l : Launch} {e : Env} {s : State} {m : MethodId} {args : Array Value} {below : List Frame} {meth : Method} {c : Code} {Q : State → Prop} {G : jG} {A : Nat → Prop}
set_option maxRecDepth 100000 in
set_option maxHeartbeats 4000000 in
theorem l_start (X : jX p s m args c cL_law 8 RL wsL_law G A) (XF : exF A s s.heap) (hst : l.stackTraces = false) {b K : Nat} {xs : Nat → Int32} (hX : va_X b K xs s s.heap) (hb : b < s.heap.size) (hA : ¬ A b) (hK : K ≤ 832) (fin : ∀ (kc ks : Nat) (L : List (Nat × Value)) (ws : va_W), kc ≤ 50000 ∧ ks ≤ 500000 → J p l e room_1 s m args below meth c Q G A 8 kc ks 1930 L [] ws) : J p l e room_1 s m args below meth c Q G A 8 0 0 0 [(0, .ref b)] [] [] := by
  refine j_new (ci := 9) (fs := [.null, .int 0, .null, .null, .null, .null, .null, .null]) X dL_law_0 in_L_X10 tyX10 tyX10_ok nw_L_8.1 nw_L_8.2.1 nw_L_8.2.2 rfl df_X10 (Nat.le_of_ble_eq_true rfl) (Nat.le_of_ble_eq_true rfl) (fun x => ?_)
  refine j_dup X dL_law_3 rfl ?_
  refine j_callI X XF dL_law_4 (c_X10_init l G x) gL_law_X10_init rfl ii_L_X10.1 ii_L_X10.2.1 ii_L_X10.2.2 rfl hi_X10_init ⟨Nat.le_of_ble_eq_true rfl, Nat.le_of_ble_eq_true rfl⟩ [0] rfl (by decide) rfl rfl (Nat.le_of_ble_eq_true rfl) ⟨Nat.le_of_ble_eq_true rfl, Nat.le_of_ble_eq_true rfl⟩ (fun v9 u hp9 => ?_)
  subst hp9
  refine j_astore_n (L' := [(1, .ref x), (0, .ref b)]) X dL_law_7 rfl (by decide) rfl ?_
  refine j_new (ci := 10) (fs := [.int 0, .int 0, .null, .null, .null, .null, .null, .null, .null, .int 0, .null, .null, .null, .null, .int 0, .int 0, .null, .long 0, .long 0]) X dL_law_8 in_L_X11 tyX11 tyX11_ok nw_L_65.1 nw_L_65.2.1 nw_L_65.2.2 rfl df_X11 (Nat.le_of_ble_eq_true rfl) (Nat.le_of_ble_eq_true rfl) (fun o => ?_)
  refine j_dup X dL_law_11 rfl ?_
  refine j_callI X XF dL_law_12 (c_X11_init l G o) gL_law_X11_init rfl ii_L_X11.1 ii_L_X11.2.1 ii_L_X11.2.2 rfl hi_X11_init ⟨Nat.le_of_ble_eq_true rfl, Nat.le_of_ble_eq_true rfl⟩ [122] rfl (by decide) rfl rfl (Nat.le_of_ble_eq_true rfl) ⟨Nat.le_of_ble_eq_true rfl, Nat.le_of_ble_eq_true rfl⟩ (fun v8 q hp8 => ?_)
  subst hp8
  refine j_astore_n (L' := [(2, .ref o), (1, .ref x), (0, .ref b)]) X dL_law_15 rfl (by decide) rfl ?_
  refine j_iconst (v := 1) X dL_law_16 rfl ?_
  refine j_newJ (N' := 1) X dL_law_17 na_L_long (by decide) (by decide) (by decide) (Nat.le_of_ble_eq_true rfl) (Nat.le_of_ble_eq_true rfl) (fun ot => ?_)
  refine j_astore_n (L' := [(3, .ref ot), (2, .ref o), (1, .ref x), (0, .ref b)]) X dL_law_19 rfl (by decide) rfl ?_
  refine j_iconst (v := 0) X dL_law_20 rfl ?_
  refine j_istore (L' := [(4, .int 0), (3, .ref ot), (2, .ref o), (1, .ref x), (0, .ref b)]) X dL_law_21 (by decide) rfl ?_
  refine j_sub (L' := [(0, .ref b), (1, .ref x), (2, .ref o), (3, .ref ot), (4, .int 0)]) [4, 3, 2, 1, 0] rfl ?_
  refine j_setI 132 (a := q 10) (k := 320) (f := fun _ => 0) (g := rg (List.replicate 16 0)) rfl (fun j _ => rg_0 j) (ws' := wL G x u (qz o q) ot 0 (fun _ => none) 0 0 0 0 0 0 (dg 0) (dg 0) (fun _ => dg 0, fun _ => 0, fun _ => 0, 0, 0, 0, 0, 0) 0 none none 0 0 (fun _ => dg 0) 0 0 (fun _ => dg 0) (dg 0) 0 0 0 0 0 (fun _ => 0) (fun _ => 0) (fun _ => 0) (fun _ => 0) (fun _ => 0) (fun _ => 0) (fun _ => 0) (fun _ => 0) (fun _ => 0) (List.replicate 16 0) (fun _ => 0) (fun _ => 0) (fun _ => 0) ([])) rfl ?_
  refine j_widen (kc' := 2000 + 0) (ks' := 20000 + 6 * 0) (Nat.le_of_ble_eq_true rfl) (Nat.le_of_ble_eq_true rfl) ?_
  exact l_loop (x := x) (u := u) (q := qz o q) (ot := ot) X XF hst hX hb hA hK fin 64 0 0 0 _ rfl ⟨0, fun _ => none, 0, 0, 0, 0, 0, 0, dg 0, dg 0, (fun _ => dg 0, fun _ => 0, fun _ => 0, 0, 0, 0, 0, 0), 0, none, none, 0, 0, fun _ => dg 0, 0, 0, fun _ => dg 0, dg 0, 0, 0, 0, 0, fun _ => 0, fun _ => 0, fun _ => 0, fun _ => 0, fun _ => 0, fun _ => 0, fun _ => 0, fun _ => 0, fun _ => 0, List.replicate 16 0, fun _ => 0, fun _ => 0, fun _ => 0, [], rfl, ⟨⟨Nat.le_refl _, Nat.le_refl _, by decide⟩, fun k hk => absurd hk (Nat.not_lt_zero k), Or.inl rfl, ⟨fun k hk => absurd hk (Nat.not_lt_zero k), rfl, Or.inl ⟨rfl, rfl, rfl, rfl, rfl⟩⟩, ⟨by decide, Or.inl ⟨rfl, rfl⟩⟩, rfl, okS_0⟩, fun _ => rfl⟩
end LS
