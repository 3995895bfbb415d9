/-! calls whose cells stand first, of methods that want the facts or throw -/
section JH
variable {p : Program} {l : Launch} {e : Env} {R : Room} {s : State} {m : MethodId} {args : Array Value} {below : List Frame} {meth : Method} {c : Code} {Q : State → Prop} {cc : ByteArray} {n : Nat} {own : String} {Ts : List Cond} {G : jG} {A : Nat → Prop} {kc ks pc : Nat} {L : List (Nat × Value)} {st rest : List Value} {ws : va_W}
theorem j_callVFP {y : MethodName} {bytes : ByteArray} {maxL nA index ci b : Nat} {ret : Option FieldType} {wc ws' : List Cond} {rm : Room} {C : String} {T : u_T} {N : Nat} {fs : List Value} {As : List Value} {w : va_W} {S : Type} {post : Option Value → S → Prop} {Bo Bn : S → va_W} (X : jX p s m args c cc n own Ts G A) (hF : exF A s s.heap) (hd : decode cc pc = .ok (.invokevirtual index, 3)) (hM : Cf l y wc rm G (.ref b :: As) w post Bo Bn)
    (hT : GoodIn Ts (wsV own index C y wc)) (hw : wc = Cond.code y bytes maxL ret :: ws') (hy : y.cls = C ∧ y.cls ≠ "java/lang/invoke/MethodHandle" ∧ y.cls ≠ "java/lang/invoke/VarHandle" ∧ (parseMethodDescriptor y.desc).map (fun d => d.parameters.length) = some nA) (hR : rm.frames + 1 ≤ R.frames ∧ 8 + (maxL + 11) + rm.locals ≤ R.locals)
    (q0 : Nat) (hb : w[q0]? = some (b, .inr (ci, fs))) (hc : vwCl[ci]? = some (C, T, N)) (rs : va_W) (hws : ws = w ++ rs)
    (hlen : As.length = nA) (hst : st = As.reverse ++ .ref b :: rest) (hW : (rest.map fun v => v.category).sum ≤ 8) (hf : kc + rm.cells ≤ R.cells ∧ ks + rm.slots ≤ R.slots)
    (kk : ∀ (v : Option Value) (u : S), post v u → J p l e R s m args below meth c Q G A n (kc + rm.cells) (ks + rm.slots) (pc + 3) L (v.toList ++ rest) (Bo u ++ (rs ++ Bn u))) : J p l e R s m args below meth c Q G A n kc ks pc L st ws := by
  subst hws
  refine j_callVF X hF hd hM hT hw hy hR q0 hb hc (List.range' 0 w.length) (map_range w rs w 0 [] rfl rfl) (nd_range _ _) hlen hst hW hf (fun v u hp => ?_)
  have hl : (Bo u).length = w.length := by simpa using congrArg List.length (hM.1 u)
  have e : pw_put (w ++ rs) (List.range' 0 w.length) (Bo u) = Bo u ++ rs := put_range (Bo u) w [] rs hl
  rw [e, List.append_assoc]
  exact kk v u hp
theorem j_callVXP {y : MethodName} {bytes : ByteArray} {maxL nA index ci b : Nat} {ret : Option FieldType} {wc ws' : List Cond} {rm : Room} {C cls : String} {T : u_T} {N : Nat} {fs : List Value} {As : List Value} {w : va_W} {S : Type} {post : S → Prop} {Bo : S → va_W} (X : jX p s m args c cc n own Ts G A) (hF : exF A s s.heap) (hd : decode cc pc = .ok (.invokevirtual index, 3)) (hM : CtX l y wc rm G (.ref b :: As) w cls post Bo)
    (hT : GoodIn Ts (wsV own index C y wc)) (hw : wc = Cond.code y bytes maxL ret :: ws') (hy : y.cls = C ∧ y.cls ≠ "java/lang/invoke/MethodHandle" ∧ y.cls ≠ "java/lang/invoke/VarHandle" ∧ (parseMethodDescriptor y.desc).map (fun d => d.parameters.length) = some nA) (hR : rm.frames + 1 ≤ R.frames ∧ 8 + (maxL + 11) + rm.locals ≤ R.locals)
    (q0 : Nat) (hb : w[q0]? = some (b, .inr (ci, fs))) (hc : vwCl[ci]? = some (C, T, N)) (rs : va_W) (hws : ws = w ++ rs)
    (hlen : As.length = nA) (hst : st = As.reverse ++ .ref b :: rest) (hW : (rest.map fun v => v.category).sum ≤ 8) (hf : kc + rm.cells ≤ R.cells ∧ ks + rm.slots ≤ R.slots)
    (pre : List ExceptionTableEntry) (x : ExceptionTableEntry) (suf : List ExceptionTableEntry) (hsplit : c.exceptionTable.toList = pre ++ x :: suf) (hpass : ∀ z ∈ pre, z.catchType ≠ 0 ∧ ∃ nm : String, Cond.classLink own z.catchType nm ∈ Ts ∧ (cls, nm) ∈ exN) (hx : covers x pc = true) (h0 : x.catchType ≠ 0) (hlink : Cond.classLink own x.catchType cls ∈ Ts) (hcc : (cls, cls) ∈ exC)
    (kk : ∀ (q : Nat) (u : S), post u → J p l e R s m args below meth c Q G A n (kc + rm.cells) (ks + rm.slots) x.handlerPc L [.ref q] (Bo u ++ rs)) : J p l e R s m args below meth c Q G A n kc ks pc L st ws := by
  subst hws
  refine j_callVX X hF hd hM hT hw hy hR q0 hb hc (List.range' 0 w.length) (map_range w rs w 0 [] rfl rfl) (nd_range _ _) hlen hst hW hf pre x suf hsplit hpass hx h0 hlink hcc (fun q u hp => ?_)
  have hl : (Bo u).length = w.length := by simpa using congrArg List.length (hM.1 u)
  have e : pw_put (w ++ rs) (List.range' 0 w.length) (Bo u) = Bo u ++ rs := put_range (Bo u) w [] rs hl
  rw [e]
  exact kk q u hp
end JH
