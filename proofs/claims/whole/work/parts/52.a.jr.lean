/-! rules that the class needs beyond the reference's -/
section JR2
variable {p : Program} {l : Launch} {e : Env} {R : Room} {s : State} {m : MethodId} {args : Array Value} {below : List Frame} {meth : Method} {c : Code} {Q : State → Prop} {cc : ByteArray} {n : Nat} {own : String} {Ts : List Cond} {G : jG} {A : Nat → Prop} {kc ks pc : Nat} {L : List (Nat × Value)} {st : List Value} {ws : va_W}
theorem j_mmax {x y : Int64} {index : Nat} (X : jX p s m args c cc n own Ts G A) (hd : decode cc pc = .ok (.invokestatic index, 3)) (h1 : Cond.methodLink own index Lib.MathLoose.max_long.x ∈ Ts) (h2 : Cond.static Lib.MathLoose.max_long.x ∈ Ts) (h3 : Cond.initialized "java/lang/Math" ∈ Ts) (h4 : Cond.code Lib.MathLoose.max_long.x Lib.MathLoose.max_long.code 4 (some .long) ∈ Ts) (hf : 1 ≤ R.frames) (hl : (st.map fun v => v.category).sum + 15 ≤ R.locals) (hc : kc ≤ R.cells) (hs : ks ≤ R.slots) (k : J p l e R s m args below meth c Q G A n kc ks (pc + 3) L (.long (if y < x then x else y) :: st) ws) : J p l e R s m args below meth c Q G A n kc ks pc L (.long y :: .long x :: st) ws :=
  fun H locs ls hL hP hD hS => va_mmax_long X.exec X.bytes (by rw [X.locals, hL.1]) X.self (X.hts _ h1) (X.hts _ h2) (X.hts _ h3) (X.hts _ h4) hf hl hc hs hd (k H locs ls hL hP hD hS)
theorem j_mmin {x y : Int64} {index : Nat} (X : jX p s m args c cc n own Ts G A) (hd : decode cc pc = .ok (.invokestatic index, 3)) (h1 : Cond.methodLink own index Lib.MathLoose.min_long.x ∈ Ts) (h2 : Cond.static Lib.MathLoose.min_long.x ∈ Ts) (h3 : Cond.initialized "java/lang/Math" ∈ Ts) (h4 : Cond.code Lib.MathLoose.min_long.x Lib.MathLoose.min_long.code 4 (some .long) ∈ Ts) (hf : 1 ≤ R.frames) (hl : (st.map fun v => v.category).sum + 15 ≤ R.locals) (hc : kc ≤ R.cells) (hs : ks ≤ R.slots) (k : J p l e R s m args below meth c Q G A n kc ks (pc + 3) L (.long (if y < x then y else x) :: st) ws) : J p l e R s m args below meth c Q G A n kc ks pc L (.long y :: .long x :: st) ws :=
  fun H locs ls hL hP hD hS => va_mmin_long X.exec X.bytes (by rw [X.locals, hL.1]) X.self (X.hts _ h1) (X.hts _ h2) (X.hts _ h3) (X.hts _ h4) hf hl hc hs hd (k H locs ls hL hP hD hS)
/-- the world in another order -/
theorem j_pick {ws' : va_W} (is : List Nat) (hC : is.map (fun i => ws[i]?) = ws'.map some) (hn : va_nd is = true) (k : J p l e R s m args below meth c Q G A n kc ks pc L st ws') : J p l e R s m args below meth c Q G A n kc ks pc L st ws := fun H locs ls hl hP hD hS => k H locs ls hl (fun j x hx => by
  obtain ⟨i, _, h2⟩ := pw_pick' hC hx
  exact hP i x h2) (hD.sub is hn hC) hS
end JR2
/-- a method's end that answers a reference -/
def jER (p : Program) (l : Launch) (e : Env) (R : Room) (s : State) (m : MethodId) (args : Array Value) (below : List Frame) (meth : Method) (c : Code) (Q : State → Prop) (cc : ByteArray) (G : jG) (A : Nat → Prop) (n : Nat) {S : Type} (post : Option Value → S → Prop) (Bo Bn : S → va_W) : Prop :=
  ∀ (pc : Nat) (L : List (Nat × Value)) (v : Value) (u : S) (C : String), decode cc pc = .ok (.areturn, 1) → (v = .null ∨ ∃ a, v = .ref a) → post (some v) u → meth.sig.returnType = some (.object C) → J p l e R s m args below meth c Q G A n R.cells R.slots pc L [v] (Bo u ++ Bn u)
theorem c_introR {l : Launch} {y : MethodName} {wc ws' : List Cond} {rm : Room} {G : jG} {av : List Value} {w : va_W} {S : Type} {post : Option Value → S → Prop} {Bo Bn : S → va_W} {cc : ByteArray} {maxL : Nat} {ret : Option FieldType}
    (hy : plainName y.cls = true) (hw : wc = Cond.code y cc maxL ret :: ws') (hlen : (lg_sl av).length ≤ maxL) (ha : ∀ u, (Bo u).map Prod.fst = w.map Prod.fst)
    (body : ∀ (p : Program) (e : Env) (s : State) (m : MethodId) (args : Array Value) (below : List Frame) (meth : Method) (c : Code) (Q : State → Prop) (A : Nat → Prop), jX p s m args c cc maxL y.cls wc G A → meth.sig.returnType = ret → meth.name = y.name → jER p l e rm s m args below meth c Q cc G A maxL post Bo Bn → J p l e rm s m args below meth c Q G A maxL 0 0 0 (lv_args 0 av) [] w) : Ct l y wc rm G av w post Bo Bn := by
  refine ⟨ha, fun sz => Met.ofW (cc := cc) (maxL := maxL) (ret := ret) hy hw ?_⟩
  intro p e s m args below meth c s₁ B hml hv
  obtain ⟨rfl, hsz, hP, hK, hD0⟩ := hv
  have hx := B.exec
  have hb := B.bytes
  have hr := B.returns
  have hts := atoms_spec (ws := wc) B.pre
  have hown : s.vm.findClass y.cls = some m.cls := findClass_of_methodNamed B.named
  have hlocks := B.notSynchronized
  have hnm : meth.name = y.name := (name_of_methodNamed B.named B.method).1
  subst hsz
  have hD := hD0.self (sz := s.heap.size)
  have hX : jX p s m av.toArray c cc maxL y.cls wc G (va_A w s.heap.size) := ⟨⟨hx, hb, hml, hown, hts⟩, hK, fun q h => Or.inr h⟩
  have hl := lv_entry av (n := maxL) hlen
  rw [lg_entry_eq]
  refine body p e s m av.toArray below meth c _ (va_A w s.heap.size) hX hr hnm ?_ s.heap [] _ hl hP hD va_S.rf
  intro pc L v u C hd hv hp hr0 H locs ls hl hP9 hD9 hS
  exact W.aret (v := v) hx hb hr0 (Or.inl ⟨C, rfl⟩) hv (fun t ht hW => ⟨⟨some v, u, rfl, hp, by rw [ht]; exact hP9, va_K.moved hW.alike hK, hD9⟩, hS.F ht⟩) hS.2.2 hd
section JR3
variable {p : Program} {l : Launch} {e : Env} {R : Room} {s : State} {m : MethodId} {args : Array Value} {below : List Frame} {meth : Method} {c : Code} {Q : State → Prop} {cc : ByteArray} {n : Nat} {own : String} {Ts : List Cond} {G : jG} {A : Nat → Prop} {kc ks pc : Nat} {L : List (Nat × Value)} {st : List Value} {ws : va_W}
theorem j_acmp_eq {rx ry : Option Nat} {off : Int} {tgt : Nat} (X : jX p s m args c cc n own Ts G A) (hd : decode cc pc = .ok (.if_acmp .eq off, 3)) (ht : (pc : Int) + off = (tgt : Int)) (kt : rx = ry → J p l e R s m args below meth c Q G A n kc ks tgt L st ws) (kf : ¬ rx = ry → J p l e R s m args below meth c Q G A n kc ks (pc + 3) L st ws) : J p l e R s m args below meth c Q G A n kc ks pc L (va_rf ry :: va_rf rx :: st) ws := fun H locs ls hl hP hD hS => lv_acmp_eq X.exec X.bytes hd ht (fun h => kt h H locs ls hl hP hD hS) (fun h => kf h H locs ls hl hP hD hS)
end JR3
theorem mmax_T {x y z : Int64} (h : z = if y < x then x else y) : z.toInt = max x.toInt y.toInt := by
  rw [h]; split
  · rename_i q; rw [Int64.lt_iff_toInt_lt] at q; omega
  · rename_i q; rw [Int64.lt_iff_toInt_lt] at q; omega
theorem mmin_T {x y z : Int64} (h : z = if y < x then y else x) : z.toInt = min x.toInt y.toInt := by
  rw [h]; split
  · rename_i q; rw [Int64.lt_iff_toInt_lt] at q; omega
  · rename_i q; rw [Int64.lt_iff_toInt_lt] at q; omega
