/-! the law goes round -/
theorem lo_s {G : jG} {x ot : Nat} {u q : Nat → Nat} {j : Nat} {code : Int32} {bv : Int64} {ws : va_W} (h : LO G x u q ot j code bv ws) (hj : j < 64) : LO G x u q ot (j + 1) code bv ws := by
  obtain ⟨N, f, C, fx, fy, lx, ly, S1, r1, r2, cs, md, me, mw, A0, B0, gf, ns, nf, nw, fw, cr, po, tx, ty, fa, f1, f2, f3, f4, fr, to1, cx, cy, zs, sf, sig, ofn, tail, rfl, hI, hb⟩ := h
  exact ⟨N, f, C, fx, fy, lx, ly, S1, r1, r2, cs, md, me, mw, A0, B0, gf, ns, nf, nw, fw, cr, po, tx, ty, fa, f1, f2, f3, f4, fr, to1, cx, cy, zs, sf, sig, ofn, tail, rfl, iv_s hI hj, hb⟩
theorem k13 {K : Nat} (hK : K ≤ 832) : (nI K - 13).toInt = K - 13 := by
  have h1 := nI_T (k := K) (by omega)
  have h2 : (13 : Int32).toInt = 13 := rfl
  rw [i_sub (by omega) (by omega), h1, h2]
section LP
variable {p : Program} {l : Launch} {e : Env} {s : State} {m : MethodId} {args : Array Value} {below : List Frame} {meth : Method} {c : Code} {Q : State → Prop} {G : jG} {A : Nat → Prop} {kc ks : Nat} {L : List (Nat × Value)} {x ot : Nat} {u q : Nat → Nat}
set_option maxRecDepth 20000 in
theorem l_loop (X : jX p s m args c cL_law 8 RL wsL_law G A) (XF : exF A s s.heap) (hst : l.stackTraces = false) {b K : Nat} {xs : Nat → Int32} (hX : va_X b K xs s s.heap) (hb : b < s.heap.size) (hA : ¬ A b) (hK : K ≤ 832) (fin : ∀ (kc ks : Nat) (L : List (Nat × Value)) (ws : va_W), kc ≤ 50000 ∧ ks ≤ 500000 → J p l e room_1 s m args below meth c Q G A 8 kc ks 1930 L [] ws) : ∀ (d j : Nat) (code : Int32) (bv : Int64) (ws : va_W), j + d = 64 → LO G x u q ot j code bv ws → J p l e room_1 s m args below meth c Q G A 8 (2000 + j) (20000 + 6 * j) 23 [(0, .ref b), (1, .ref x), (2, .ref (q 0)), (3, .ref ot), (4, .int (nI (13 * j)))] [] ws := by
  intro d
  induction d with
  | zero =>
    intro j code bv ws hjd hL
    refine j_iload X dL_law_23 4 rfl ?_
    refine j_aload_n X dL_law_25 rfl 0 rfl ?_
    refine j_salen X hX hb hA dL_law_26 ?_
    refine j_bipush (v := 13) X dL_law_27 (by decide) ?_
    refine j_isub X dL_law_29 ?_
    refine j_icmp_gt (tgt := 1930) X dL_law_30 (by decide) (fun _ => ?_) (fun c9 => ?_)
    · exact fin _ _ _ _ ⟨by omega, by omega⟩
    · exfalso
      rw [Int32.lt_iff_toInt_lt, k13 hK, nI_T (by omega)] at c9
      omega
  | succ d ih =>
    intro j code bv ws hjd hL
    refine j_iload X dL_law_23 4 rfl ?_
    refine j_aload_n X dL_law_25 rfl 0 rfl ?_
    refine j_salen X hX hb hA dL_law_26 ?_
    refine j_bipush (v := 13) X dL_law_27 (by decide) ?_
    refine j_isub X dL_law_29 ?_
    refine j_icmp_gt (tgt := 1930) X dL_law_30 (by decide) (fun _ => ?_) (fun c9 => ?_)
    · exact fin _ _ _ _ ⟨by omega, by omega⟩
    have hi : 13 * j + 13 ≤ K := by
      rw [Int32.lt_iff_toInt_lt, k13 hK, nI_T (by omega)] at c9
      omega
    have hj : j < 64 := by omega
    have next : ∀ (code : Int32) (bv : Int64) (ws2 : va_W), LO G x u q ot (j + 1) code bv ws2 → J p l e room_1 s m args below meth c Q G A 8 (2000 + j + 1) (20000 + 6 * j + 6) 1924 [(0, .ref b), (1, .ref x), (2, .ref (q 0)), (3, .ref ot), (4, .int (nI (13 * j)))] [] ws2 := fun code bv ws2 hL2 => by
      refine j_iinc (v := nI (13 * (j + 1))) (L' := [(4, .int (nI (13 * (j + 1)))), (0, .ref b), (1, .ref x), (2, .ref (q 0)), (3, .ref ot)]) X dL_law_1924 4 rfl (nI_a (13 * j) 13) (by decide) rfl ?_
      refine j_goto (tgt := 23) X dL_law_1927 (by decide) ?_
      refine j_sub [1, 2, 3, 4, 0] rfl ?_
      refine j_widen (kc' := 2000 + (j + 1)) (ks' := 20000 + 6 * (j + 1)) (by omega) (by omega) ?_
      exact ih (j + 1) code bv ws2 (by omega) hL2
    refine j_aload_n X dL_law_33 rfl 0 rfl ?_
    refine j_iload X dL_law_34 4 rfl ?_
    refine j_sald X hX hb hA dL_law_36 (13 * j) rfl (by omega) (by omega) ?_
    refine j_bipush (v := 15) X dL_law_37 (by decide) ?_
    refine j_iand X dL_law_39 ?_
    refine j_topi (fun z ez => ?_)
    by_cases hz : z.toInt < 0 ∨ 12 < z.toInt
    · refine j_tableOut (tgt := 1924) X dL_law_40 hz (by decide) ?_
      refine j_widen (kc' := 2000 + j + 1) (ks' := 20000 + 6 * j + 6) (by omega) (by omega) ?_
      exact next code bv ws (lo_s hL hj)
    rcases (show z.toInt = 0 ∨ z.toInt = 1 ∨ z.toInt = 2 ∨ z.toInt = 3 ∨ z.toInt = 4 ∨ z.toInt = 5 ∨ z.toInt = 6 ∨ z.toInt = 7 ∨ z.toInt = 8 ∨ z.toInt = 9 ∨ z.toInt = 10 ∨ z.toInt = 11 ∨ z.toInt = 12 by omega) with h | h | h | h | h | h | h | h | h | h | h | h | h
    · refine j_tableIn (off := 68) (tgt := 108) X dL_law_40 (by omega) (by omega) (by rw [h]; rfl) (by decide) ?_
      exact lc_turn X XF hst hX hb hA hK hi hL hj ⟨by omega, by omega⟩ next
    · refine j_tableIn (off := 390) (tgt := 430) X dL_law_40 (by omega) (by omega) (by rw [h]; rfl) (by decide) ?_
      exact lc_segment X XF hst hX hb hA hK hi hL hj ⟨by omega, by omega⟩ next
    · refine j_tableIn (off := 616) (tgt := 656) X dL_law_40 (by omega) (by omega) (by rw [h]; rfl) (by decide) ?_
      exact lc_arc X XF hst hX hb hA hK hi hL hj ⟨by omega, by omega⟩ next
    · refine j_tableIn (off := 822) (tgt := 862) X dL_law_40 (by omega) (by omega) (by rw [h]; rfl) (by decide) ?_
      exact lc_distance X XF hst hX hb hA hK hi hL hj ⟨by omega, by omega⟩ next
    · refine j_tableIn (off := 913) (tgt := 953) X dL_law_40 (by omega) (by omega) (by rw [h]; rfl) (by decide) ?_
      exact lc_compare X XF hst hX hb hA hK hi hL hj ⟨by omega, by omega⟩ next
    · refine j_tableIn (off := 1139) (tgt := 1179) X dL_law_40 (by omega) (by omega) (by rw [h]; rfl) (by decide) ?_
      exact lc_cross X XF hst hX hb hA hK hi hL hj ⟨by omega, by omega⟩ next
    · refine j_tableIn (off := 1207) (tgt := 1247) X dL_law_40 (by omega) (by omega) (by rw [h]; rfl) (by decide) ?_
      exact lc_at X XF hst hX hb hA hK hi hL hj ⟨by omega, by omega⟩ next
    · refine j_tableIn (off := 1286) (tgt := 1326) X dL_law_40 (by omega) (by omega) (by rw [h]; rfl) (by decide) ?_
      exact lc_on X XF hst hX hb hA hK hi hL hj ⟨by omega, by omega⟩ next
    · refine j_tableIn (off := 1437) (tgt := 1477) X dL_law_40 (by omega) (by omega) (by rw [h]; rfl) (by decide) ?_
      exact lc_over X XF hst hX hb hA hK hi hL hj ⟨by omega, by omega⟩ next
    · refine j_tableIn (off := 1580) (tgt := 1620) X dL_law_40 (by omega) (by omega) (by rw [h]; rfl) (by decide) ?_
      exact lc_root X XF hst hX hb hA hK hi hL hj ⟨by omega, by omega⟩ next
    · refine j_tableIn (off := 1679) (tgt := 1719) X dL_law_40 (by omega) (by omega) (by rw [h]; rfl) (by decide) ?_
      exact lc_corner X XF hst hX hb hA hK hi hL hj ⟨by omega, by omega⟩ next
    · refine j_tableIn (off := 1818) (tgt := 1858) X dL_law_40 (by omega) (by omega) (by rw [h]; rfl) (by decide) ?_
      exact lc_area X XF hst hX hb hA hK hi hL hj ⟨by omega, by omega⟩ next
    · refine j_tableIn (off := 1873) (tgt := 1913) X dL_law_40 (by omega) (by omega) (by rw [h]; rfl) (by decide) ?_
      exact lc_clear X XF hst hL hj ⟨by omega, by omega⟩ next
end LP
