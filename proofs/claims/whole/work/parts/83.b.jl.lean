/-! calls out of a world with a tail that is only a name -/
theorem nd_app : ∀ {a b : List Nat}, va_nd a = true → va_nd b = true → (∀ i, i ∈ a → i ∈ b → False) → va_nd (a ++ b) = true
  | [], b, _, hb, _ => hb
  | x :: a, b, ha, hb, h => by
    simp only [va_nd, Bool.and_eq_true, decide_eq_true_eq] at ha
    show va_nd (x :: (a ++ b)) = true
    simp only [va_nd, Bool.and_eq_true, decide_eq_true_eq, List.mem_append]
    exact ⟨fun q => q.elim ha.1 (fun q => h x List.mem_cons_self q), nd_app ha.2 hb (fun i h1 h2 => h i (List.mem_cons_of_mem _ h1) h2)⟩
theorem nd_add (c : Nat) : ∀ {a : List Nat}, va_nd a = true → va_nd (a.map (fun i => c + i)) = true
  | [], _ => rfl
  | x :: a, ha => by
    simp only [va_nd, Bool.and_eq_true, decide_eq_true_eq] at ha
    rw [List.map_cons]
    simp only [va_nd, Bool.and_eq_true, decide_eq_true_eq]
    refine ⟨fun q => ?_, nd_add c ha.2⟩
    obtain ⟨y, h1, h2⟩ := List.mem_map.mp q
    have : y = x := by omega
    subst this
    exact ha.1 h1
theorem setW_self {ws : va_W} {i : Nat} {x : Nat × va_E} (h : ws[i]? = some x) : ws.set i x = ws := by
  apply List.ext_getElem?
  intro j
  by_cases e : i = j
  · subst e; rw [List.getElem?_set_self (List.getElem?_eq_some_iff.mp h).1, h]
  · rw [List.getElem?_set_ne e]
theorem pw_same : ∀ (is : List Nat) (xs ws : va_W), is.map (fun i => ws[i]?) = xs.map some → pw_put ws is xs = ws
  | [], xs, ws, _ => by simp [pw_put]
  | i :: is, [], ws, h => by simp at h
  | i :: is, x :: xs, ws, h => by
    rw [List.map_cons, List.map_cons] at h
    injection h with h1 h2
    rw [pw_put, setW_self h1]
    exact pw_same is xs ws h2
theorem pw_app : ∀ (is1 : List Nat) (xs1 ws : va_W) (is2 : List Nat) (xs2 : va_W), is1.length = xs1.length → pw_put ws (is1 ++ is2) (xs1 ++ xs2) = pw_put (pw_put ws is1 xs1) is2 xs2
  | [], [], ws, is2, xs2, _ => by simp [pw_put]
  | [], x :: xs, ws, is2, xs2, h => by simp at h
  | i :: is, [], ws, is2, xs2, h => by simp at h
  | i :: is, x :: xs, ws, is2, xs2, h => by
    rw [List.cons_append, List.cons_append, pw_put, pw_put]
    exact pw_app is xs (ws.set i x) is2 xs2 (by simpa using h)
section JL
variable {p : Program} {l : Launch} {e : Env} {R : Room} {s : State} {m : MethodId} {args : Array Value} {below : List Frame} {meth : Method} {c : Code} {Q : State → Prop} {cc : ByteArray} {n : Nat} {own : String} {Ts : List Cond} {G : jG} {A : Nat → Prop} {kc ks pc : Nat} {L : List (Nat × Value)} {st rest : List Value} {ws : va_W}
/-- no two cells of a world lie at one place -/
theorem j_dist (k : (∀ (i j : Nat) (x y : Nat × va_E), ws[i]? = some x → ws[j]? = some y → x.1 = y.1 → i = j) → J p l e R s m args below meth c Q G A n kc ks pc L st ws) : J p l e R s m args below meth c Q G A n kc ks pc L st ws := fun H locs ls hl hP hD hS => k hD.1 H locs ls hl hP hD hS
theorem j_pickT {F F' T : va_W} (is : List Nat) (hC : is.map (fun i => F[i]?) = F'.map some) (hn : va_nd is = true) (k : J p l e R s m args below meth c Q G A n kc ks pc L st (F' ++ T)) : J p l e R s m args below meth c Q G A n kc ks pc L st (F ++ T) := by
  intro H locs ls hl hP hD hS
  have lt : ∀ i ∈ is, i < F.length := by
    intro i hi
    have h1 : (F[i]?) ∈ is.map (fun i => F[i]?) := List.mem_map.mpr ⟨i, hi, rfl⟩
    rw [hC] at h1
    obtain ⟨x, _, hx⟩ := List.mem_map.mp h1
    exact (List.getElem?_eq_some_iff.mp hx.symm).1
  have hC2 : (is ++ List.range' F.length T.length).map (fun i => (F ++ T)[i]?) = (F' ++ T).map some := by
    rw [List.map_append, List.map_append]
    have h1 : is.map (fun i => (F ++ T)[i]?) = F'.map some := by
      rw [← hC]
      exact List.map_congr_left (fun i hi => List.getElem?_append_left (lt i hi))
    have h2 := map_range (F ++ T) [] T F.length F rfl rfl
    rw [List.append_nil] at h2
    rw [h1, h2]
  have hn2 : va_nd (is ++ List.range' F.length T.length) = true := nd_app hn (nd_range _ _) (fun i h1 h2 => by
    have := lt i h1
    rw [List.mem_range'_1] at h2
    omega)
  exact k H locs ls hl (va_Psub hC2 hP) (hD.sub _ hn2 hC2) hS
theorem j_callSW0 {y : MethodName} {bytes : ByteArray} {maxL nA index : Nat} {ret : Option FieldType} {hh : List (Nat × Nat × Nat × Nat)} {wc ws' : List Cond} {rm : Room} {As : List Value} {w : va_W} {S : Type} {post : Option Value → S → Prop} {Bo : S → va_W} (X : jX p s m args c cc n own Ts G A) (hF : exF A s s.heap) (hd : decode cc pc = .ok (.invokestatic index, 3)) (hM : Cf l y wc rm G As w post Bo (fun _ => []))
    (hT : GoodIn Ts (va_wsS own index y wc)) (hw : wc = Cond.codeWith y bytes maxL ret hh :: ws') (hy : y.cls ≠ "java/lang/invoke/MethodHandle" ∧ y.cls ≠ "java/lang/invoke/VarHandle" ∧ (parseMethodDescriptor y.desc).map (fun d => d.parameters.length) = some nA) (hR : rm.frames + 1 ≤ R.frames ∧ 8 + (maxL + 11) + rm.locals ≤ R.locals)
    (is : List Nat) (hC : is.map (fun i => ws[i]?) = w.map some) (hn : va_nd is = true)
    (hlen : As.length = nA) (hst : st = As.reverse ++ rest) (hW : (rest.map fun v => v.category).sum ≤ 8) (hf : kc + rm.cells ≤ R.cells ∧ ks + rm.slots ≤ R.slots)
    (kk : ∀ (v : Option Value) (u : S), post v u → J p l e R s m args below meth c Q G A n (kc + rm.cells) (ks + rm.slots) (pc + 3) L (v.toList ++ rest) (pw_put ws is (Bo u))) : J p l e R s m args below meth c Q G A n kc ks pc L st ws :=
  j_callSW X hF hd hM hT hw hy hR is hC hn hlen hst hW hf (fun v u hp => by rw [List.append_nil]; exact kk v u hp)
theorem j_callV0 {y : MethodName} {bytes : ByteArray} {maxL nA index ci b : Nat} {ret : Option FieldType} {wc ws' : List Cond} {rm : Room} {C : String} {T : u_T} {N : Nat} {fs : List Value} {As : List Value} {w : va_W} {S : Type} {post : Option Value → S → Prop} {Bo : S → va_W} (X : jX p s m args c cc n own Ts G A) (hd : decode cc pc = .ok (.invokevirtual index, 3)) (hM : Ct l y wc rm G (.ref b :: As) w post Bo (fun _ => []))
    (hT : GoodIn Ts (wsV own index C y wc)) (hw : wc = Cond.code y bytes maxL ret :: ws') (hy : y.cls = C ∧ y.cls ≠ "java/lang/invoke/MethodHandle" ∧ y.cls ≠ "java/lang/invoke/VarHandle" ∧ (parseMethodDescriptor y.desc).map (fun d => d.parameters.length) = some nA) (hR : rm.frames + 1 ≤ R.frames ∧ 8 + (maxL + 11) + rm.locals ≤ R.locals)
    (q0 : Nat) (hb : w[q0]? = some (b, .inr (ci, fs))) (hc : vwCl[ci]? = some (C, T, N)) (is : List Nat) (hC : is.map (fun i => ws[i]?) = w.map some) (hn : va_nd is = true)
    (hlen : As.length = nA) (hst : st = As.reverse ++ .ref b :: rest) (hW : (rest.map fun v => v.category).sum ≤ 8) (hf : kc + rm.cells ≤ R.cells ∧ ks + rm.slots ≤ R.slots)
    (kk : ∀ (v : Option Value) (u : S), post v u → J p l e R s m args below meth c Q G A n (kc + rm.cells) (ks + rm.slots) (pc + 3) L (v.toList ++ rest) (pw_put ws is (Bo u))) : J p l e R s m args below meth c Q G A n kc ks pc L st ws :=
  j_callV X hd hM hT hw hy hR q0 hb hc is hC hn hlen hst hW hf (fun v u hp => by rw [List.append_nil]; exact kk v u hp)
/-- cells that stand first, and some of the tail that stay as they are -/
theorem j_callSWT {y : MethodName} {bytes : ByteArray} {maxL nA index : Nat} {ret : Option FieldType} {hh : List (Nat × Nat × Nat × Nat)} {wc ws' : List Cond} {rm : Room} {As : List Value} {wf wt : va_W} {S : Type} {post : Option Value → S → Prop} {Bo bf Bn : S → va_W} (X : jX p s m args c cc n own Ts G A) (hF : exF A s s.heap) (hd : decode cc pc = .ok (.invokestatic index, 3)) (hM : Cf l y wc rm G As (wf ++ wt) post Bo Bn) (hBo : ∀ u, Bo u = bf u ++ wt)
    (hT : GoodIn Ts (va_wsS own index y wc)) (hw : wc = Cond.codeWith y bytes maxL ret hh :: ws') (hy : y.cls ≠ "java/lang/invoke/MethodHandle" ∧ y.cls ≠ "java/lang/invoke/VarHandle" ∧ (parseMethodDescriptor y.desc).map (fun d => d.parameters.length) = some nA) (hR : rm.frames + 1 ≤ R.frames ∧ 8 + (maxL + 11) + rm.locals ≤ R.locals)
    (Fr T : va_W) (isT : List Nat) (hCT : isT.map (fun i => T[i]?) = wt.map some) (hnT : va_nd isT = true)
    (hlen : As.length = nA) (hst : st = As.reverse ++ rest) (hW : (rest.map fun v => v.category).sum ≤ 8) (hf : kc + rm.cells ≤ R.cells ∧ ks + rm.slots ≤ R.slots)
    (kk : ∀ (v : Option Value) (u : S), post v u → J p l e R s m args below meth c Q G A n (kc + rm.cells) (ks + rm.slots) (pc + 3) L (v.toList ++ rest) ((bf u ++ Fr) ++ (T ++ Bn u))) : J p l e R s m args below meth c Q G A n kc ks pc L st ((wf ++ Fr) ++ T) := by
  have hl : ∀ u, (bf u).length = wf.length := fun u => by
    have h1 := congrArg List.length (hM.1 u)
    rw [hBo u] at h1
    simpa using h1
  refine j_callSW X hF hd hM hT hw hy hR (List.range' 0 wf.length ++ isT.map (fun i => (wf ++ Fr).length + i)) ?_ ?_ hlen hst hW hf (fun v u hp => ?_)
  · rw [List.map_append, List.map_append]
    have h1 := map_range wf (Fr ++ T) wf 0 [] rfl rfl
    rw [← List.append_assoc] at h1
    have h2 : (isT.map (fun i => (wf ++ Fr).length + i)).map (fun i => (wf ++ Fr ++ T)[i]?) = wt.map some := by
      rw [List.map_map, ← hCT]
      refine List.map_congr_left (fun i _ => ?_)
      show (wf ++ Fr ++ T)[(wf ++ Fr).length + i]? = T[i]?
      rw [List.getElem?_append_right (by omega), Nat.add_sub_cancel_left]
    rw [h1, h2]
  · refine nd_app (nd_range _ _) (nd_add _ hnT) (fun i h1 h2 => ?_)
    rw [List.mem_range'_1] at h1
    obtain ⟨y, -, h3⟩ := List.mem_map.mp h2
    have : (wf ++ Fr).length = wf.length + Fr.length := List.length_append
    omega
  · have e1 : pw_put (wf ++ Fr ++ T) (List.range' 0 wf.length) (bf u) = bf u ++ Fr ++ T := by
      have := put_range (bf u) wf [] (Fr ++ T) (hl u)
      rw [List.append_assoc, List.append_assoc]
      exact this
    have e2 : pw_put (bf u ++ Fr ++ T) (isT.map (fun i => (wf ++ Fr).length + i)) wt = bf u ++ Fr ++ T := by
      refine pw_same _ _ _ ?_
      rw [List.map_map, ← hCT]
      refine List.map_congr_left (fun i _ => ?_)
      show (bf u ++ Fr ++ T)[(wf ++ Fr).length + i]? = T[i]?
      have e3 : (bf u ++ Fr).length = (wf ++ Fr).length := by rw [List.length_append, List.length_append, hl u]
      rw [List.getElem?_append_right (by omega), e3, Nat.add_sub_cancel_left]
    rw [hBo u, pw_app _ _ _ _ _ (by rw [List.length_range', hl u]), e1, e2, List.append_assoc (bf u ++ Fr)]
    exact kk v u hp
end JL
