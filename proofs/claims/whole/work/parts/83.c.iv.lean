/-! J's rules for the script and the switch; what holds between two calls holds after one that changes little -/
section JS
variable {p : Program} {l : Launch} {e : Env} {R : Room} {s : State} {m : MethodId} {args : Array Value} {below : List Frame} {meth : Method} {c : Code} {Q : State → Prop} {cc : ByteArray} {n : Nat} {own : String} {Ts : List Cond} {G : jG} {A : Nat → Prop} {kc ks pc : Nat} {L : List (Nat × Value)} {st : List Value} {ws : va_W}
theorem j_sald {b K : Nat} {xs : Nat → Int32} {i : Int32} (X : jX p s m args c cc n own Ts G A) (hX : va_X b K xs s s.heap) (hb : b < s.heap.size) (hA : ¬ A b) (hd : decode cc pc = .ok (.iaload, 1)) (j : Nat) (hi : i = nI j) (hj : j < K) (hK : K < 2 ^ 31) (k : J p l e R s m args below meth c Q G A n kc ks (pc + 1) L (.int (xs j) :: st) ws) : J p l e R s m args below meth c Q G A n kc ks pc L (.int i :: .ref b :: st) ws := by
  subst hi
  refine fun H locs ls hL hP hD hS => va_sld X.exec X.bytes hX hb hA hS (vp_in_nI hj hK) hd ?_
  rw [nI_clamp (by omega)]
  exact k H locs ls hL hP hD hS
theorem j_salen {b K : Nat} {xs : Nat → Int32} (X : jX p s m args c cc n own Ts G A) (hX : va_X b K xs s s.heap) (hb : b < s.heap.size) (hA : ¬ A b) (hd : decode cc pc = .ok (.arraylength, 1)) (k : J p l e R s m args below meth c Q G A n kc ks (pc + 1) L (.int (nI K) :: st) ws) : J p l e R s m args below meth c Q G A n kc ks pc L (.ref b :: st) ws :=
  fun H locs ls hL hP hD hS => va_slen X.exec X.bytes hX hb hA hS hd (k H locs ls hL hP hD hS)
theorem j_tableOut {dflt lo hi : Int} {offs : Array Int} {len : Nat} {x : Int32} {tgt : Nat} (X : jX p s m args c cc n own Ts G A) (hd : decode cc pc = .ok (.tableswitch dflt lo hi offs, len)) (h : x.toInt < lo ∨ hi < x.toInt) (ht : (pc : Int) + dflt = (tgt : Int)) (k : J p l e R s m args below meth c Q G A n kc ks tgt L st ws) : J p l e R s m args below meth c Q G A n kc ks pc L (.int x :: st) ws :=
  fun H locs ls hL hP hD hS => lv_tableOut X.exec X.bytes hd h ht (k H locs ls hL hP hD hS)
theorem j_tableIn {dflt lo hi : Int} {offs : Array Int} {len : Nat} {x : Int32} {off : Int} {tgt : Nat} (X : jX p s m args c cc n own Ts G A) (hd : decode cc pc = .ok (.tableswitch dflt lo hi offs, len)) (h1 : ¬ x.toInt < lo) (h2 : ¬ hi < x.toInt) (ho : offs[(x.toInt - lo).toNat]? = some off) (ht : (pc : Int) + off = (tgt : Int)) (k : J p l e R s m args below meth c Q G A n kc ks tgt L st ws) : J p l e R s m args below meth c Q G A n kc ks pc L (.int x :: st) ws :=
  fun H locs ls hL hP hD hS => lv_tableIn X.exec X.bytes hd h1 h2 ho ht (k H locs ls hL hP hD hS)
end JS
theorem tl_app {tail : va_W} {i : Nat} {x : Nat × va_E} (h : tail[i]? = some x) (y : va_W) : (tail ++ y)[i]? = some x := by
  rw [List.getElem?_append_left (List.getElem?_eq_some_iff.mp h).1]; exact h
theorem sh_c {tail y : va_W} {f f' : Nat → Option Nat} {fa fa' : Nat → Int32} {f1 f1' f2 f2' f3 f3' f4 f4' : Nat → Int64} {fr fr' to1 to1' : Nat → Int32} {k : Nat} (h : shF tail f fa f1 f2 f3 f4 fr to1 k) (e0 : f' k = f k) (ea : fa' k = fa k) (e1 : f1' k = f1 k) (e2 : f2' k = f2 k) (e3 : f3' k = f3 k) (e4 : f4' k = f4 k) (er : fr' k = fr k) (et : to1' k = to1 k) : shF (tail ++ y) f' fa' f1' f2' f3' f4' fr' to1' k := by
  obtain ⟨a, i, hf, h⟩ := h
  refine ⟨a, i, e0.trans hf, ?_⟩
  rw [ea, e1, e2, e3, e4, er, et]
  rcases h with ⟨h1, ⟨dx, dy, h2, h3⟩, h4⟩ | ⟨h1, h2, h3⟩
  · exact Or.inl ⟨h1, ⟨dx, dy, tl_app h2 y, h3⟩, h4⟩
  · exact Or.inr ⟨h1, tl_app h2 y, h3⟩
theorem gp_c {tail y : va_W} {me mw : Option Nat} {A0 B0 : Int} (h : gpF tail me mw A0 B0) : gpF (tail ++ y) me mw A0 B0 := by
  rcases h with h | ⟨i1, i2, sq, tq, a1, a2, a3, a4, a5, a6, b1, b2, b3, b4, b5, b6, h1, h2, h3, h4, h5⟩
  · exact Or.inl h
  · exact Or.inr ⟨i1, i2, sq, tq, a1, a2, a3, a4, a5, a6, b1, b2, b3, b4, b5, b6, h1, h2, tl_app h3 y, tl_app h4 y, h5⟩
theorem cr_k {md cr : Int32} {cs : XS} {po : Int32} {sig : Nat → Int32} {tx ty : Int64} {zs zs' : List Int} (h : crF md cr cs po sig tx ty zs) (hk : kp zs zs') : crF md cr cs po sig tx ty zs' := by
  refine ⟨h.1, ?_⟩
  rcases h.2 with h | ⟨h1, h2, v, h3, h4, h5⟩
  · exact Or.inl h
  · refine Or.inr ⟨h1, h2, v, ⟨h3.1, h3.2.1, fun q => ?_⟩, h4, h5⟩
    obtain ⟨⟨a, b, c, d⟩, g⟩ := h3.2.2 q
    exact ⟨⟨(hk.2 0 (by decide)).trans a, (hk.2 1 (by decide)).trans b, (hk.2 2 (by decide)).trans c, (hk.2 3 (by decide)).trans d⟩, g⟩
section IV
variable {N C j : Nat} {f : Nat → Option Nat} {fx fy lx ly : Int64} {S1 : Int} {cs : XS} {md : Int32} {me mw : Option Nat} {A0 B0 : Int} {cr po : Int32} {tx ty : Int64} {fa : Nat → Int32} {f1 f2 f3 f4 : Nat → Int64} {fr to1 : Nat → Int32} {cx cy : Nat → Int64} {zs zs' : List Int} {sf sf' sig : Nat → Int32} {tail : va_W}
theorem iv_s (h : iV N C j f fx fy lx ly S1 cs md me mw A0 B0 cr po tx ty fa f1 f2 f3 f4 fr to1 cx cy zs sf sig tail) (hj : j < 64) : iV N C (j + 1) f fx fy lx ly S1 cs md me mw A0 B0 cr po tx ty fa f1 f2 f3 f4 fr to1 cx cy zs sf sig tail := by
  obtain ⟨⟨a, b, c⟩, h⟩ := h
  exact ⟨⟨by omega, by omega, by omega⟩, h⟩
theorem iv_k (h : iV N C j f fx fy lx ly S1 cs md me mw A0 B0 cr po tx ty fa f1 f2 f3 f4 fr to1 cx cy zs sf sig tail) (hj : j < 64) (hk : kp zs zs') (hs : okS zs' sf') : iV N C (j + 1) f fx fy lx ly S1 cs md me mw A0 B0 cr po tx ty fa f1 f2 f3 f4 fr to1 cx cy zs' sf' sig tail := by
  obtain ⟨⟨a, b, c⟩, h1, h2, h3, h4, h5⟩ := h
  exact ⟨⟨by omega, by omega, by omega⟩, h1, h2, h3, cr_k h4 hk, hk.1, hs⟩
theorem iv_seg {w : Nat} {g1 g2 g3 g4 d1 d2 : Int64} (h : iV N C j f fx fy lx ly S1 cs md me mw A0 B0 cr po tx ty fa f1 f2 f3 f4 fr to1 cx cy zs sf sig tail) (hj : j < 64) (hP : ((inC g1.toInt ∧ inC g2.toInt) ∧ (inC g3.toInt ∧ inC g4.toInt)) ∧ ¬ (g1.toInt = g3.toInt ∧ g2.toInt = g4.toInt)) (hd : d1.toInt = g3.toInt - g1.toInt ∧ d2.toInt = g4.toInt - g2.toInt) : iV (N + 1) C (j + 1) (va_up f N (some w)) fx fy lx ly S1 cs md me mw A0 B0 cr po tx ty (upd fa N 0) (vp_updL f1 N g1) (vp_updL f2 N g2) (vp_updL f3 N g3) (vp_updL f4 N g4) fr to1 cx cy zs sf sig (tail ++ [(w, .inr (7, [.long g1, .long g2, .long g3, .long g4, .long d1, .long d2]))]) := by
  obtain ⟨⟨a, b, c⟩, h1, h2, h3, h4, h5⟩ := h
  refine ⟨⟨by omega, by omega, by omega⟩, fun k hk => ?_, gp_c h2, h3, h4, h5⟩
  by_cases e : k = N
  · subst e
    refine ⟨w, tail.length, if_pos rfl, Or.inl ⟨if_pos rfl, ⟨d1, d2, ?_, ?_⟩, ?_⟩⟩
    · rw [List.getElem?_append_right (Nat.le_refl _), Nat.sub_self]
      simp only [vp_updL, if_true]
      rfl
    · simp only [vp_updL, if_true]
      exact ⟨⟨hP.1.1.1, hP.1.1.2, hP.1.2.1, hP.1.2.2⟩, hd⟩
    · simp only [vp_updL, if_true]
      exact hP.2
  · exact sh_c (h1 k (by omega)) (if_neg e) (if_neg e) (if_neg e) (if_neg e) (if_neg e) (if_neg e) rfl rfl
theorem iv_arc {w : Nat} {g1 g2 g3 g4 : Int64} {d1 d2 : Int32} (h : iV N C j f fx fy lx ly S1 cs md me mw A0 B0 cr po tx ty fa f1 f2 f3 f4 fr to1 cx cy zs sf sig tail) (hj : j < 64) (hP : arH g1 g2 g3 d1 d2) : iV (N + 1) C (j + 1) (va_up f N (some w)) fx fy lx ly S1 cs md me mw A0 B0 cr po tx ty (upd fa N 1) (vp_updL f1 N g1) (vp_updL f2 N g2) (vp_updL f3 N g3) (vp_updL f4 N g4) (upd fr N d1) (upd to1 N d2) cx cy zs sf sig (tail ++ [(w, .inr (0, [.long g1, .long g2, .long g3, .int d1, .int d2]))]) := by
  obtain ⟨⟨a, b, c⟩, h1, h2, h3, h4, h5⟩ := h
  refine ⟨⟨by omega, by omega, by omega⟩, fun k hk => ?_, gp_c h2, h3, h4, h5⟩
  by_cases e : k = N
  · subst e
    refine ⟨w, tail.length, if_pos rfl, Or.inr ⟨if_pos rfl, ?_, ?_⟩⟩
    · rw [List.getElem?_append_right (Nat.le_refl _), Nat.sub_self]
      simp only [vp_updL, upd, if_true]
      rfl
    · simp only [vp_updL, upd, if_true]
      exact hP
  · exact sh_c (h1 k (by omega)) (if_neg e) (if_neg e) (if_neg e) (if_neg e) (if_neg e) (if_neg e) (if_neg e) (if_neg e)
theorem aro_c {cx cy cx' cy' : Nat → Int64} : ∀ (k : Nat), (∀ i, i ≤ k → cx' i = cx i ∧ cy' i = cy i) → aro cx' cy' k = aro cx cy k
  | 0, _ => rfl
  | k + 1, h => by
    rw [aro, aro, aro_c k (fun i hi => h i (by omega)), acr, acr, (h k (by omega)).1, (h k (by omega)).2, (h (k + 1) (by omega)).1, (h (k + 1) (by omega)).2]
theorem iv_c0 {g1 g2 : Int64} (h : iV N 0 j f fx fy lx ly S1 cs md me mw A0 B0 cr po tx ty fa f1 f2 f3 f4 fr to1 cx cy zs sf sig tail) (hj : j < 64) (hP : inC g1.toInt ∧ inC g2.toInt) : iV N 1 (j + 1) f g1 g2 g1 g2 S1 cs md me mw A0 B0 cr po tx ty fa f1 f2 f3 f4 fr to1 (vp_updL cx 0 g1) (vp_updL cy 0 g2) zs sf sig tail := by
  obtain ⟨⟨a, b, c⟩, h1, h2, h3, h4, h5⟩ := h
  refine ⟨⟨by omega, by omega, by omega⟩, h1, h2, ⟨fun k hk => ?_, h3.2.1, Or.inr ⟨by omega, rfl, rfl, rfl, rfl⟩⟩, h4, h5⟩
  have e : k = 0 := by omega
  subst e
  exact hP
theorem iv_cn {g1 g2 : Int64} (hC : 0 < C) (h : iV N C j f fx fy lx ly S1 cs md me mw A0 B0 cr po tx ty fa f1 f2 f3 f4 fr to1 cx cy zs sf sig tail) (hj : j < 64) (hP : inC g1.toInt ∧ inC g2.toInt) : iV N (C + 1) (j + 1) f fx fy g1 g2 (S1 + (lx.toInt * g2.toInt - ly.toInt * g1.toInt)) cs md me mw A0 B0 cr po tx ty fa f1 f2 f3 f4 fr to1 (vp_updL cx C g1) (vp_updL cy C g2) zs sf sig tail := by
  obtain ⟨⟨a, b, c⟩, h1, h2, ⟨p1, p2, p3⟩, h4, h5⟩ := h
  obtain ⟨D, rfl⟩ : ∃ D, C = D + 1 := ⟨C - 1, by omega⟩
  obtain ⟨-, q1, q2, q3, q4⟩ : 0 < D + 1 ∧ fx = cx 0 ∧ fy = cy 0 ∧ lx = cx D ∧ ly = cy D := p3.resolve_left (fun q => by omega)
  have u1 : ∀ (g : Nat → Int64) (z : Int64) (k : Nat), k < D + 1 → vp_updL g (D + 1) z k = g k := fun g z k hk => if_neg (by omega)
  have u2 : ∀ (g : Nat → Int64) (z : Int64), vp_updL g (D + 1) z (D + 1) = z := fun g z => if_pos rfl
  refine ⟨⟨by omega, by omega, by omega⟩, h1, h2, ⟨fun k hk => ?_, ?_, Or.inr ⟨by omega, ?_, ?_, ?_, ?_⟩⟩, h4, h5⟩
  · by_cases e : k = D + 1
    · subst e; rw [u2, u2]; exact hP
    · rw [u1 _ _ k (by omega), u1 _ _ k (by omega)]; exact p1 k (by omega)
  · show _ = aro _ _ (D + 1)
    rw [aro, aro_c D (fun i hi => ⟨u1 cx g1 i (by omega), u1 cy g2 i (by omega)⟩), acr, u1 _ _ D (by omega), u1 _ _ D (by omega), u2, u2, p2, q3, q4, Int.mul_comm (cy D).toInt]
    rfl
  · rw [u1 _ _ 0 (by omega)]; exact q1
  · rw [u1 _ _ 0 (by omega)]; exact q2
  · exact (u2 _ _).symm
  · exact (u2 _ _).symm
end IV
/-- twice the area, out of what the polygon keeps -/
theorem ar_po {C : Nat} {fx fy lx ly : Int64} {S1 : Int} {cx cy : Nat → Int64} (h : poF C fx fy lx ly S1 cx cy) : S1 + (lx.toInt * fy.toInt - ly.toInt * fx.toInt) = ar2 cx cy C := by
  obtain ⟨p1, p2, p3⟩ := h
  rcases p3 with ⟨rfl, rfl, rfl, rfl, rfl⟩ | ⟨h0, rfl, rfl, rfl, rfl⟩
  · rw [p2]; rfl
  · obtain ⟨D, rfl⟩ : ∃ D, C = D + 1 := ⟨C - 1, by omega⟩
    rw [p2]
    show aro cx cy D + ((cx D).toInt * (cy 0).toInt - (cy D).toInt * (cx 0).toInt) = _
    unfold ar2
    by_cases c : D + 1 < 3
    · rw [if_pos c]
      rcases D with _ | _ | D
      · rw [aro]; grind
      · rw [aro, aro, acr]; grind
      · omega
    · rw [if_neg c]
      show _ = aro cx cy D + acr cx cy D 0
      rw [acr]; grind
theorem po_ly {C : Nat} {fx fy lx ly : Int64} {S1 : Int} {cx cy : Nat → Int64} (h : poF C fx fy lx ly S1 cx cy) : inC lx.toInt ∧ inC ly.toInt := by
  obtain ⟨p1, p2, p3⟩ := h
  rcases p3 with ⟨rfl, rfl, rfl, rfl, rfl⟩ | ⟨h0, rfl, rfl, rfl, rfl⟩
  · exact ⟨by decide, by decide⟩
  · exact p1 (C - 1) (by omega)
