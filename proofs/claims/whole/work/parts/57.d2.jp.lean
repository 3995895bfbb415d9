/-! a call whose cells stand first in the world: nothing is looked up -/
theorem nd_range : ∀ (n k : Nat), va_nd (List.range' k n) = true
  | 0, k => rfl
  | n + 1, k => by
    rw [List.range'_succ]
    simp only [va_nd, Bool.and_eq_true, decide_eq_true_eq]
    exact ⟨fun h => by rw [List.mem_range'_1] at h; omega, nd_range n (k + 1)⟩
theorem map_range (w rest : va_W) : ∀ (w2 : va_W) (k : Nat) (pre : va_W), pre.length = k → pre ++ w2 = w → (List.range' k w2.length).map (fun i => (w ++ rest)[i]?) = w2.map some
  | [], k, pre, h1, h2 => rfl
  | x :: w2, k, pre, h1, h2 => by
    rw [List.length_cons, List.range'_succ, List.map_cons, List.map_cons, map_range w rest w2 (k + 1) (pre ++ [x]) (by simp [h1]) (by simp [← h2])]
    congr 1
    rw [← h2, List.append_assoc, List.getElem?_append_right (by omega), h1, Nat.sub_self]
    rfl
theorem put_range : ∀ (xs w2 pre rest : va_W), xs.length = w2.length → pw_put (pre ++ (w2 ++ rest)) (List.range' pre.length w2.length) xs = pre ++ (xs ++ rest)
  | [], w2, pre, rest, h => by
    have : w2 = [] := List.length_eq_zero_iff.mp h.symm
    rw [this]; rfl
  | x :: xs, [], pre, rest, h => by simp at h
  | x :: xs, y :: w2, pre, rest, h => by
    rw [List.length_cons, List.range'_succ, pw_put]
    have e : (pre ++ (y :: w2 ++ rest)).set pre.length x = (pre ++ [x]) ++ (w2 ++ rest) := by
      rw [List.set_append_right _ _ (Nat.le_refl _), Nat.sub_self]
      simp
    have e2 : pre.length + 1 = (pre ++ [x]).length := by simp
    rw [e, e2, put_range xs w2 (pre ++ [x]) rest (by simpa using h)]
    simp
section JP
variable {p : Program} {l : Launch} {e : Env} {R : Room} {s : State} {m : MethodId} {args : Array Value} {below : List Frame} {meth : Method} {c : Code} {Q : State → Prop} {cc : ByteArray} {n : Nat} {own : String} {Ts : List Cond} {G : jG} {A : Nat → Prop} {kc ks pc : Nat} {L : List (Nat × Value)} {st rest : List Value} {ws : va_W}
theorem j_callVP {y : MethodName} {bytes : ByteArray} {maxL nA index ci b : Nat} {ret : Option FieldType} {wc ws' : List Cond} {rm : Room} {C : String} {T : u_T} {N : Nat} {fs : List Value} {As : List Value} {w : va_W} {S : Type} {post : Option Value → S → Prop} {Bo Bn : S → va_W} (X : jX p s m args c cc n own Ts G A) (hd : decode cc pc = .ok (.invokevirtual index, 3)) (hM : Ct l y wc rm G (.ref b :: As) w post Bo Bn)
    (hT : GoodIn Ts (wsV own index C y wc)) (hw : wc = Cond.code y bytes maxL ret :: ws') (hy : y.cls = C ∧ y.cls ≠ "java/lang/invoke/MethodHandle" ∧ y.cls ≠ "java/lang/invoke/VarHandle" ∧ (parseMethodDescriptor y.desc).map (fun d => d.parameters.length) = some nA) (hR : rm.frames + 1 ≤ R.frames ∧ 8 + (maxL + 11) + rm.locals ≤ R.locals)
    (q0 : Nat) (hb : w[q0]? = some (b, .inr (ci, fs))) (hc : vwCl[ci]? = some (C, T, N)) (rs : va_W) (hws : ws = w ++ rs)
    (hlen : As.length = nA) (hst : st = As.reverse ++ .ref b :: rest) (hW : (rest.map fun v => v.category).sum ≤ 8) (hf : kc + rm.cells ≤ R.cells ∧ ks + rm.slots ≤ R.slots)
    (kk : ∀ (v : Option Value) (u : S), post v u → J p l e R s m args below meth c Q G A n (kc + rm.cells) (ks + rm.slots) (pc + 3) L (v.toList ++ rest) (Bo u ++ (rs ++ Bn u))) : J p l e R s m args below meth c Q G A n kc ks pc L st ws := by
  subst hws
  refine j_callV X hd hM hT hw hy hR q0 hb hc (List.range' 0 w.length) (map_range w rs w 0 [] rfl rfl) (nd_range _ _) hlen hst hW hf (fun v u hp => ?_)
  have hl : (Bo u).length = w.length := by simpa using congrArg List.length (hM.1 u)
  have e : pw_put (w ++ rs) (List.range' 0 w.length) (Bo u) = Bo u ++ rs := put_range (Bo u) w [] rs hl
  rw [e, List.append_assoc]
  exact kk v u hp
end JP
