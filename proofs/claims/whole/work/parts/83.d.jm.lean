/-! a call out of a world whose cells are known by places, some of them in the tail -/
theorem pw_ne : ∀ (is : List Nat) (xs ws : va_W) (k : Nat), k ∉ is → (pw_put ws is xs)[k]? = ws[k]?
  | [], xs, ws, k, _ => by simp [pw_put]
  | i :: is, [], ws, k, _ => by simp [pw_put]
  | i :: is, x :: xs, ws, k, h => by
    rw [List.mem_cons, not_or] at h
    rw [pw_put, pw_ne is xs (ws.set i x) k h.2, List.getElem?_set_ne (fun q => h.1 q.symm)]
theorem at_app (F T : va_W) (i m : Nat) (h : F.length = m) : (F ++ T)[m + i]? = T[i]? := by
  rw [List.getElem?_append_right (by omega), ← h, Nat.add_sub_cancel_left]
section JM
variable {p : Program} {l : Launch} {e : Env} {R : Room} {s : State} {m : MethodId} {args : Array Value} {below : List Frame} {meth : Method} {c : Code} {Q : State → Prop} {cc : ByteArray} {n : Nat} {own : String} {Ts : List Cond} {G : jG} {A : Nat → Prop} {kc ks pc : Nat} {L : List (Nat × Value)} {st rest : List Value} {ws : va_W}
theorem j_callSWM {y : MethodName} {bytes : ByteArray} {maxL nA index : Nat} {ret : Option FieldType} {hh : List (Nat × Nat × Nat × Nat)} {wc ws' : List Cond} {rm : Room} {As : List Value} {wf wt : va_W} {S : Type} {post : Option Value → S → Prop} {Bo bf Bn : S → va_W} (X : jX p s m args c cc n own Ts G A) (hF : exF A s s.heap) (hd : decode cc pc = .ok (.invokestatic index, 3)) (hM : Cf l y wc rm G As (wf ++ wt) post Bo Bn) (hBo : ∀ u, Bo u = bf u ++ wt)
    (hT : GoodIn Ts (va_wsS own index y wc)) (hw : wc = Cond.codeWith y bytes maxL ret hh :: ws') (hy : y.cls ≠ "java/lang/invoke/MethodHandle" ∧ y.cls ≠ "java/lang/invoke/VarHandle" ∧ (parseMethodDescriptor y.desc).map (fun d => d.parameters.length) = some nA) (hR : rm.frames + 1 ≤ R.frames ∧ 8 + (maxL + 11) + rm.locals ≤ R.locals)
    (m0 : Nat) (isF isT : List Nat) (hlt : ∀ i ∈ isF, i < m0) (hnF : va_nd isF = true) (hnT : va_nd isT = true) (hCF : isF.map (fun i => ws[i]?) = wf.map some) (hCT : isT.map (fun i => ws[m0 + i]?) = wt.map some)
    (hlen : As.length = nA) (hst : st = As.reverse ++ rest) (hW : (rest.map fun v => v.category).sum ≤ 8) (hf : kc + rm.cells ≤ R.cells ∧ ks + rm.slots ≤ R.slots)
    (kk : ∀ (v : Option Value) (u : S), post v u → J p l e R s m args below meth c Q G A n (kc + rm.cells) (ks + rm.slots) (pc + 3) L (v.toList ++ rest) (pw_put ws isF (bf u) ++ Bn u)) : J p l e R s m args below meth c Q G A n kc ks pc L st ws := by
  have hlF : isF.length = wf.length := by simpa using congrArg List.length hCF
  have hl : ∀ u, (bf u).length = wf.length := fun u => by
    have h1 := congrArg List.length (hM.1 u)
    rw [hBo u] at h1
    simpa using h1
  refine j_callSW X hF hd hM hT hw hy hR (isF ++ isT.map (fun i => m0 + i)) ?_ ?_ hlen hst hW hf (fun v u hp => ?_)
  · rw [List.map_append, List.map_append, List.map_map, hCF]
    exact congrArg (fun z => List.map some wf ++ z) hCT
  · refine nd_app hnF (nd_add _ hnT) (fun i h1 h2 => ?_)
    have := hlt i h1
    obtain ⟨y, -, h3⟩ := List.mem_map.mp h2
    omega
  · have e2 : pw_put (pw_put ws isF (bf u)) (isT.map (fun i => m0 + i)) wt = pw_put ws isF (bf u) := by
      refine pw_same _ _ _ ?_
      rw [List.map_map, ← hCT]
      refine List.map_congr_left (fun i _ => ?_)
      show (pw_put ws isF (bf u))[m0 + i]? = ws[m0 + i]?
      exact pw_ne _ _ _ _ (fun q => by have := hlt _ q; omega)
    rw [hBo u, pw_app _ _ _ _ _ (by rw [hlF, hl u]), e2]
    exact kk v u hp
end JM
