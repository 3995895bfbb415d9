/-! calls whose cells are marked in the world, in its order: one pass instead of places -/
def mkP : List Bool → va_W → va_W
  | [], _ => []
  | true :: m, w => match w with
    | [] => []
    | c :: w => c :: mkP m w
  | false :: m, w => match w with
    | [] => []
    | _ :: w => mkP m w
def mkS : List Bool → va_W → va_W → va_W
  | [], w, _ => w
  | true :: m, w, xs => match w, xs with
    | _ :: w, x :: xs => x :: mkS m w xs
    | w, _ => w
  | false :: m, w, xs => match w with
    | [] => []
    | c :: w => c :: mkS m w xs
def mkI : List Bool → Nat → List Nat
  | [], _ => []
  | true :: m, k => k :: mkI m (k + 1)
  | false :: m, k => mkI m (k + 1)
theorem mkI_b : ∀ (m : List Bool) (k i : Nat), i ∈ mkI m k → k ≤ i ∧ i < k + m.length
  | [], k, i, h => absurd h List.not_mem_nil
  | true :: m, k, i, h => by
    rw [mkI, List.mem_cons] at h
    rw [List.length_cons]
    rcases h with rfl | h
    · omega
    · have := mkI_b m (k + 1) i h
      omega
  | false :: m, k, i, h => by
    rw [mkI] at h
    rw [List.length_cons]
    have := mkI_b m (k + 1) i h
    omega
theorem mkI_n : ∀ (m : List Bool) (k : Nat), va_nd (mkI m k) = true
  | [], k => rfl
  | true :: m, k => by
    rw [mkI]
    simp only [va_nd, Bool.and_eq_true, decide_eq_true_eq]
    exact ⟨fun q => by have := mkI_b m (k + 1) k q; omega, mkI_n m (k + 1)⟩
  | false :: m, k => by rw [mkI]; exact mkI_n m (k + 1)
theorem mk_get : ∀ (m : List Bool) (w pre : va_W), m.length ≤ w.length → (mkI m pre.length).map (fun i => (pre ++ w)[i]?) = (mkP m w).map some
  | [], w, pre, _ => rfl
  | true :: m, [], pre, h => by simp at h
  | true :: m, c :: w, pre, h => by
    have e : pre ++ c :: w = (pre ++ [c]) ++ w := by simp
    have ih := mk_get m w (pre ++ [c]) (by simpa using h)
    rw [List.length_append, List.length_cons, List.length_nil] at ih
    rw [mkI, mkP, List.map_cons, List.map_cons, List.getElem?_append_right (Nat.le_refl _), Nat.sub_self, e, ih]
    rfl
  | false :: m, [], pre, h => by simp at h
  | false :: m, c :: w, pre, h => by
    have e : pre ++ c :: w = (pre ++ [c]) ++ w := by simp
    have ih := mk_get m w (pre ++ [c]) (by simpa using h)
    rw [List.length_append, List.length_cons, List.length_nil] at ih
    rw [mkI, mkP, e, ih]
theorem mk_put : ∀ (m : List Bool) (w pre xs : va_W), m.length ≤ w.length → xs.length = (mkP m w).length → pw_put (pre ++ w) (mkI m pre.length) xs = pre ++ mkS m w xs
  | [], w, pre, xs, _, _ => by simp [pw_put, mkI, mkS]
  | true :: m, [], pre, xs, h, _ => by simp at h
  | true :: m, c :: w, pre, [], h, hx => by simp [mkP] at hx
  | true :: m, c :: w, pre, x :: xs, h, hx => by
    have ih := mk_put m w (pre ++ [x]) xs (by simpa using h) (by simpa [mkP] using hx)
    rw [List.length_append, List.length_cons, List.length_nil] at ih
    have e : (pre ++ c :: w).set pre.length x = (pre ++ [x]) ++ w := by
      rw [List.set_append_right _ _ (Nat.le_refl _), Nat.sub_self, List.append_assoc]; rfl
    rw [mkI, mkS, pw_put, e, ih, List.append_assoc]
    rfl
  | false :: m, [], pre, xs, h, _ => by simp at h
  | false :: m, c :: w, pre, xs, h, hx => by
    have ih := mk_put m w (pre ++ [c]) xs (by simpa using h) (by simpa [mkP] using hx)
    rw [List.length_append, List.length_cons, List.length_nil] at ih
    have e : pre ++ c :: w = (pre ++ [c]) ++ w := by simp
    rw [mkI, mkS, e, ih, List.append_assoc]
    rfl
section JK
variable {p : Program} {l : Launch} {e : Env} {R : Room} {s : State} {m : MethodId} {args : Array Value} {below : List Frame} {meth : Method} {c : Code} {Q : State → Prop} {cc : ByteArray} {n : Nat} {own : String} {Ts : List Cond} {G : jG} {A : Nat → Prop} {kc ks pc : Nat} {L : List (Nat × Value)} {st rest : List Value} {ws : va_W}
theorem j_callSWK {y : MethodName} {bytes : ByteArray} {maxL nA index : Nat} {ret : Option FieldType} {hh : List (Nat × Nat × Nat × Nat)} {wc ws' : List Cond} {rm : Room} {As : List Value} {wf wt : va_W} {S : Type} {post : Option Value → S → Prop} {Bo bf : S → va_W} (X : jX p s m args c cc n own Ts G A) (hF : exF A s s.heap) (hd : decode cc pc = .ok (.invokestatic index, 3)) (hM : Cf l y wc rm G As (wf ++ wt) post Bo (fun _ => [])) (hBo : ∀ u, Bo u = bf u ++ wt)
    (hT : GoodIn Ts (va_wsS own index y wc)) (hw : wc = Cond.codeWith y bytes maxL ret hh :: ws') (hy : y.cls ≠ "java/lang/invoke/MethodHandle" ∧ y.cls ≠ "java/lang/invoke/VarHandle" ∧ (parseMethodDescriptor y.desc).map (fun d => d.parameters.length) = some nA) (hR : rm.frames + 1 ≤ R.frames ∧ 8 + (maxL + 11) + rm.locals ≤ R.locals)
    (mk : List Bool) (isT : List Nat) (hle : mk.length ≤ ws.length) (hK : mkP mk ws = wf) (hnT : va_nd isT = true) (hCT : isT.map (fun i => ws[mk.length + i]?) = wt.map some)
    (hlen : As.length = nA) (hst : st = As.reverse ++ rest) (hW : (rest.map fun v => v.category).sum ≤ 8) (hf : kc + rm.cells ≤ R.cells ∧ ks + rm.slots ≤ R.slots)
    (kk : ∀ (v : Option Value) (u : S), post v u → J p l e R s m args below meth c Q G A n (kc + rm.cells) (ks + rm.slots) (pc + 3) L (v.toList ++ rest) (mkS mk ws (bf u))) : J p l e R s m args below meth c Q G A n kc ks pc L st ws := by
  have hl : ∀ u, (bf u).length = wf.length := fun u => by
    have h1 := congrArg List.length (hM.1 u)
    rw [hBo u] at h1
    simpa using h1
  refine j_callSWM X hF hd hM hBo hT hw hy hR mk.length (mkI mk 0) isT (fun i hi => by have := mkI_b mk 0 i hi; omega) (mkI_n mk 0) hnT ?_ hCT hlen hst hW hf (fun v u hp => ?_)
  · rw [← hK]
    exact mk_get mk ws [] hle
  · have := mk_put mk ws [] (bf u) hle (by rw [hK]; exact hl u)
    rw [List.nil_append, List.nil_append] at this
    rw [List.append_nil, show mkI mk 0 = mkI mk ([] : va_W).length from rfl, this]
    exact kk v u hp
theorem j_callSWK0 {y : MethodName} {bytes : ByteArray} {maxL nA index : Nat} {ret : Option FieldType} {hh : List (Nat × Nat × Nat × Nat)} {wc ws' : List Cond} {rm : Room} {As : List Value} {wf : va_W} {S : Type} {post : Option Value → S → Prop} {Bo : S → va_W} (X : jX p s m args c cc n own Ts G A) (hF : exF A s s.heap) (hd : decode cc pc = .ok (.invokestatic index, 3)) (hM : Cf l y wc rm G As wf post Bo (fun _ => []))
    (hT : GoodIn Ts (va_wsS own index y wc)) (hw : wc = Cond.codeWith y bytes maxL ret hh :: ws') (hy : y.cls ≠ "java/lang/invoke/MethodHandle" ∧ y.cls ≠ "java/lang/invoke/VarHandle" ∧ (parseMethodDescriptor y.desc).map (fun d => d.parameters.length) = some nA) (hR : rm.frames + 1 ≤ R.frames ∧ 8 + (maxL + 11) + rm.locals ≤ R.locals)
    (mk : List Bool) (hle : mk.length ≤ ws.length) (hK : mkP mk ws = wf)
    (hlen : As.length = nA) (hst : st = As.reverse ++ rest) (hW : (rest.map fun v => v.category).sum ≤ 8) (hf : kc + rm.cells ≤ R.cells ∧ ks + rm.slots ≤ R.slots)
    (kk : ∀ (v : Option Value) (u : S), post v u → J p l e R s m args below meth c Q G A n (kc + rm.cells) (ks + rm.slots) (pc + 3) L (v.toList ++ rest) (mkS mk ws (Bo u))) : J p l e R s m args below meth c Q G A n kc ks pc L st ws := by
  refine j_callSWK (wt := []) (bf := Bo) X hF hd (by rw [List.append_nil]; exact hM) (fun u => (List.append_nil _).symm) hT hw hy hR mk [] hle hK rfl rfl hlen hst hW hf kk
theorem j_callVK {y : MethodName} {bytes : ByteArray} {maxL nA index ci b : Nat} {ret : Option FieldType} {wc ws' : List Cond} {rm : Room} {C : String} {T : u_T} {N : Nat} {fs : List Value} {As : List Value} {w : va_W} {S : Type} {post : Option Value → S → Prop} {Bo : S → va_W} (X : jX p s m args c cc n own Ts G A) (hd : decode cc pc = .ok (.invokevirtual index, 3)) (hM : Ct l y wc rm G (.ref b :: As) w post Bo (fun _ => []))
    (hT : GoodIn Ts (wsV own index C y wc)) (hw : wc = Cond.code y bytes maxL ret :: ws') (hy : y.cls = C ∧ y.cls ≠ "java/lang/invoke/MethodHandle" ∧ y.cls ≠ "java/lang/invoke/VarHandle" ∧ (parseMethodDescriptor y.desc).map (fun d => d.parameters.length) = some nA) (hR : rm.frames + 1 ≤ R.frames ∧ 8 + (maxL + 11) + rm.locals ≤ R.locals)
    (q0 : Nat) (hb : w[q0]? = some (b, .inr (ci, fs))) (hc : vwCl[ci]? = some (C, T, N)) (mk : List Bool) (hle : mk.length ≤ ws.length) (hK : mkP mk ws = w)
    (hlen : As.length = nA) (hst : st = As.reverse ++ .ref b :: rest) (hW : (rest.map fun v => v.category).sum ≤ 8) (hf : kc + rm.cells ≤ R.cells ∧ ks + rm.slots ≤ R.slots)
    (kk : ∀ (v : Option Value) (u : S), post v u → J p l e R s m args below meth c Q G A n (kc + rm.cells) (ks + rm.slots) (pc + 3) L (v.toList ++ rest) (mkS mk ws (Bo u))) : J p l e R s m args below meth c Q G A n kc ks pc L st ws := by
  refine j_callV0 X hd hM hT hw hy hR q0 hb hc (mkI mk 0) ?_ (mkI_n mk 0) hlen hst hW hf (fun v u hp => ?_)
  · rw [← hK]
    exact mk_get mk ws [] hle
  · have hl : (Bo u).length = (mkP mk ws).length := by rw [hK]; simpa using congrArg List.length (hM.1 u)
    have := mk_put mk ws [] (Bo u) hle hl
    rw [List.nil_append, List.nil_append] at this
    rw [show mkI mk 0 = mkI mk ([] : va_W).length from rfl, this]
    exact kk v u hp
end JK
