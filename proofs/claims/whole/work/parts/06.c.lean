/-! contracts over worlds, calls in place -/
def pw_put : va_W → List Nat → va_W → va_W
  | ws, i :: is, x :: xs => pw_put (ws.set i x) is xs
  | ws, _, _ => ws
theorem pw_len : ∀ (is : List Nat) (xs ws : va_W), (pw_put ws is xs).length = ws.length
  | [], xs, ws => by simp [pw_put]
  | i :: is, [], ws => by simp [pw_put]
  | i :: is, x :: xs, ws => by simp [pw_put, pw_len is xs]
theorem pw_at : ∀ (is : List Nat) (xs ws : va_W), va_nd is = true → is.length = xs.length → ∀ (k : Nat) (x : Nat × va_E), (pw_put ws is xs)[k]? = some x → (∃ j : Nat, is[j]? = some k ∧ xs[j]? = some x) ∨ (k ∉ is ∧ ws[k]? = some x)
  | [], xs, ws, _, _, k, x, h => Or.inr ⟨List.not_mem_nil, by simpa [pw_put] using h⟩
  | i :: is, [], ws, _, hl, k, x, h => by simp at hl
  | i :: is, y :: xs, ws, hn, hl, k, x, h => by
    simp only [va_nd, Bool.and_eq_true, decide_eq_true_eq] at hn
    have hl' : is.length = xs.length := by simpa using hl
    rw [pw_put] at h
    rcases pw_at is xs (ws.set i y) hn.2 hl' k x h with ⟨j, h1, h2⟩ | ⟨h1, h2⟩
    · exact Or.inl ⟨j + 1, by simpa using h1, by simpa using h2⟩
    · by_cases hk : k = i
      · subst hk
        have hlt : k < ws.length := by
          have := (List.getElem?_eq_some_iff.mp h2).1
          simpa using this
        rw [List.getElem?_set_self hlt] at h2
        exact Or.inl ⟨0, rfl, by simpa using h2⟩
      · rw [List.getElem?_set_ne (Ne.symm hk)] at h2
        exact Or.inr ⟨by simp [hk, h1], h2⟩
theorem pw_pick {ws w : va_W} {is : List Nat} (hC : is.map (fun i => ws[i]?) = w.map some) {j k : Nat} {x : Nat × va_E} (hj : is[j]? = some k) (hx : w[j]? = some x) : ws[k]? = some x := by
  have h1 : (is.map (fun i => ws[i]?))[j]? = some (some x) := by rw [hC, List.getElem?_map, hx]; rfl
  rw [List.getElem?_map, hj] at h1
  exact Option.some.inj h1
theorem pw_pick' {ws w : va_W} {is : List Nat} (hC : is.map (fun i => ws[i]?) = w.map some) {j : Nat} {x : Nat × va_E} (hx : w[j]? = some x) : ∃ k, is[j]? = some k ∧ ws[k]? = some x := by
  have h1 : (is.map (fun i => ws[i]?))[j]? = some (some x) := by rw [hC, List.getElem?_map, hx]; rfl
  rw [List.getElem?_map] at h1
  cases hi : is[j]? with
  | none => rw [hi] at h1; cases h1
  | some i => rw [hi] at h1; exact ⟨i, rfl, Option.some.inj h1⟩
/-- behind a call: the callee's cells in their places, the new ones at the end -/
theorem pw_join {A0 : Nat → Prop} {D : va_G} {cl : List vw_C} {ws w w1 wn : va_W} {H H1 : Heap} (hP : va_P D cl ws H) (hD : va_D A0 ws) (is : List Nat) (hC : is.map (fun i => ws[i]?) = w.map some) (hn : va_nd is = true) (ha : w1.map Prod.fst = w.map Prod.fst)
    (hk : ∀ q : Nat, q < H.size → ¬ va_A w H.size q → H1[q]? = H[q]?) (hF : ∀ q, va_A w H.size q → A0 q) (hP1 : va_P D cl (w1 ++ wn) H1) (hD1 : va_D (va_A w H.size) (w1 ++ wn)) : va_P D cl (pw_put ws is w1 ++ wn) H1 ∧ va_D A0 (pw_put ws is w1 ++ wn) := by
  have hlw : is.length = w.length := by simpa using congrArg List.length hC
  have hl1 : w1.length = w.length := by simpa using congrArg List.length ha
  have hadr : ∀ (j : Nat) (x : Nat × va_E), w1[j]? = some x → ∃ y, w[j]? = some y ∧ y.1 = x.1 := by
    intro j x hx
    have h1 : (w1.map Prod.fst)[j]? = some x.1 := by rw [List.getElem?_map, hx]; rfl
    rw [ha, List.getElem?_map] at h1
    cases hw : w[j]? with
    | none => rw [hw] at h1; cases h1
    | some y => rw [hw] at h1; exact ⟨y, rfl, Option.some.inj h1⟩
  have old : ∀ (k : Nat) (x : Nat × va_E), (pw_put ws is w1)[k]? = some x → ∃ y, ws[k]? = some y ∧ y.1 = x.1 := by
    intro k x hx
    rcases pw_at is w1 ws hn (hlw.trans hl1.symm) k x hx with ⟨j, h1, h2⟩ | ⟨-, h2⟩
    · obtain ⟨y, h3, h4⟩ := hadr j x h2
      exact ⟨y, pw_pick hC h1 h3, h4⟩
    · exact ⟨x, h2, rfl⟩
  have hwA : ∀ (k : Nat) (x : Nat × va_E), ws[k]? = some x → k ∉ is → ¬ va_A w H.size x.1 := by
    intro k x hx hkn h
    rcases h with ⟨j, e, h⟩ | h
    · obtain ⟨k2, h3, h4⟩ := pw_pick' hC h
      have := hD.1 k k2 x (x.1, e) hx h4 rfl
      subst this
      exact hkn (List.mem_of_getElem? h3)
    · have := (hP k x hx).lt
      omega
  have hPo : va_P D cl (pw_put ws is w1) H1 := by
    intro k x hx
    rcases pw_at is w1 ws hn (hlw.trans hl1.symm) k x hx with ⟨j, h1, h2⟩ | ⟨h1, h2⟩
    · exact hP1 j x (by rw [List.getElem?_append_left (List.getElem?_eq_some_iff.mp h2).1]; exact h2)
    · exact (hP k x h2).kept (hk x.1 (hP k x h2).lt (hwA k x h2 h1))
  have hPn : va_P D cl wn H1 := fun k x hx => hP1 (w1.length + k) x (by rw [List.getElem?_append_right (by omega), Nat.add_sub_cancel_left]; exact hx)
  have hDo : va_D A0 (pw_put ws is w1) := by
    refine ⟨fun i j x y hi hj hxy => ?_, fun k x hx => ?_⟩
    · obtain ⟨x0, h1, h2⟩ := old i x hi
      obtain ⟨y0, h3, h4⟩ := old j y hj
      exact hD.1 i j x0 y0 h1 h3 (h2.trans (hxy.trans h4.symm))
    · obtain ⟨x0, h1, h2⟩ := old k x hx
      rw [← h2]; exact hD.2 k x0 h1
  have hDn : va_D A0 wn := by
    refine ⟨fun i j x y hi hj hxy => ?_, fun k x hx => ?_⟩
    · have := hD1.1 (w1.length + i) (w1.length + j) x y (by rw [List.getElem?_append_right (by omega), Nat.add_sub_cancel_left]; exact hi) (by rw [List.getElem?_append_right (by omega), Nat.add_sub_cancel_left]; exact hj) hxy
      omega
    · exact hF _ (hD1.2 (w1.length + k) x (by rw [List.getElem?_append_right (by omega), Nat.add_sub_cancel_left]; exact hx))
  refine ⟨hPo.app hPn, hDo.app hDn (fun i j x y hx hy hxy => ?_)⟩
  have hyA := hD1.2 (w1.length + j) y (by rw [List.getElem?_append_right (by omega), Nat.add_sub_cancel_left]; exact hy)
  obtain ⟨x0, h1, h2⟩ := old i x hx
  rcases hyA with ⟨j2, e, h⟩ | h
  · have hj2 : j2 < w1.length := by rw [hl1]; exact (List.getElem?_eq_some_iff.mp h).1
    obtain ⟨z, hz⟩ : ∃ z, w1[j2]? = some z := ⟨_, List.getElem?_eq_getElem hj2⟩
    obtain ⟨z0, h5, h6⟩ := hadr j2 z hz
    cases h.symm.trans h5
    have := hD1.1 j2 (w1.length + j) z y (by rw [List.getElem?_append_left hj2]; exact hz) (by rw [List.getElem?_append_right (by omega), Nat.add_sub_cancel_left]; exact hy) h6.symm
    omega
  · have := (hP i x0 h1).lt
    rw [h2, hxy] at this
    omega
/-- a contract's start -/
def cP (G : jG) (w : va_W) (sz : Nat) : State → Prop := fun U => U.heap.size = sz ∧ va_P G.1 vwCl w U.heap ∧ va_K G.1 vwCl (jT G) U ∧ va_D (fun _ => True) w
/-- a contract's end: the answer, the old cells, the new ones -/
def cQ (G : jG) (w : va_W) (sz : Nat) {S : Type} (post : Option Value → S → Prop) (Bo Bn : S → va_W) : Array Value → State → Outcome → State → Prop := fun _ st oc t => (∃ (v : Option Value) (u : S), oc = .returned v ∧ post v u ∧ va_P G.1 vwCl (Bo u ++ Bn u) t.heap ∧ va_K G.1 vwCl (jT G) t ∧ va_D (va_A w sz) (Bo u ++ Bn u)) ∧ va_F (va_A w sz) st t
def Ct (l : Launch) (y : MethodName) (wc : List Cond) (rm : Room) (G : jG) (av : List Value) (w : va_W) {S : Type} (post : Option Value → S → Prop) (Bo Bn : S → va_W) : Prop :=
  (∀ u, (Bo u).map Prod.fst = w.map Prod.fst) ∧ ∀ sz, Met l y wc rm (va_Pc av (cP G w sz)) (cQ G w sz post Bo Bn) rm.cells rm.slots (va_A w sz)
theorem cP_blind {G : jG} {av : List Value} {w : va_W} {sz : Nat} : FrameBlind (va_Pc av (cP G w sz)) := fun a U g mk q => ⟨q.1, q.2.1, q.2.2.1, va_K.moved (u := U) (U := U.calling g mk a) (Vm.Alike.refl U.vm) q.2.2.2.1, q.2.2.2.2⟩
section CR
variable {p : Program} {l : Launch} {e : Env} {R : Room} {s : State} {m : MethodId} {args : Array Value} {below : List Frame} {meth : Method} {c : Code} {Q : State → Prop} {cc : ByteArray} {n : Nat} {own : String} {Ts : List Cond} {G : jG} {A : Nat → Prop} {kc ks pc : Nat} {L : List (Nat × Value)} {st rest : List Value} {ws : va_W}
/-- a run of a callee with a contract, from a world that holds its cells -/
theorem j_run {a : Array Value} {mc ms : Nat} {w : va_W} {S : Type} {post : Option Value → S → Prop} {Bo Bn : S → va_W} (X : jX p s m args c cc n own Ts G A) (is : List Nat) (hC : is.map (fun i => ws[i]?) = w.map some) (hn : va_nd is = true) (ha : ∀ u, (Bo u).map Prod.fst = w.map Prod.fst)
    (hr : ∀ (H : Heap) (locs : List Loc) (ls : Array Slot), lv_has ls n L → va_P G.1 vwCl w H → va_D (fun _ => True) w → va_Run p l e R s m args below meth c H locs kc ks mc ms (F0 m pc ls st) rest (cQ G w H.size post Bo Bn a) (va_A w H.size))
    (kk : ∀ (v : Option Value) (u : S), post v u → J p l e R s m args below meth c Q G A n (kc + mc) (ks + ms) (pc + 3) L (v.toList ++ rest) (pw_put ws is (Bo u) ++ Bn u)) : J p l e R s m args below meth c Q G A n kc ks pc L st ws := by
  intro H locs ls hl hP hD hS
  have hPw : va_P G.1 vwCl w H := fun j x hx => by
    obtain ⟨k, h1, h2⟩ := pw_pick' hC hx
    exact hP k x h2
  have hlw : is.length = w.length := by simpa using congrArg List.length hC
  have hDw : va_D A w := hD.sub is hn hC
  have hF := va_free (wc := w) hD hS X.new is hC
  intro T hT X1
  obtain ⟨v, st₀, t, T', L1, h0, X', hL, e1, e2, ⟨⟨v', u, hv, hp, hP1, hK1, hD1⟩, hz, hk⟩, stp⟩ := hr H locs ls hl hPw (hDw.weaken (fun _ _ _ _ => trivial)) T hT X1
  cases hv
  rw [h0] at hz hk
  rw [← e1] at hP1 hz hk
  obtain ⟨g1, g2⟩ := pw_join hP hD is hC hn (ha u) hk hF hP1 hD1
  obtain ⟨t2, a1, b1⟩ := kk v u hp T'.heap (locs ++ L1) ls hl g1 g2 ⟨Nat.le_trans hS.1 hz, fun q h1 h2 => by rw [hk q (Nat.lt_of_lt_of_le h1 hS.1) (fun z => h2 (hF q z))]; exact hS.2.1 q h1 h2, fun q hq => by
      rcases List.mem_append.mp hq with h | h
      · exact hS.2.2 q h
      · exact hF _ (hL q h)⟩ T' rfl X'
  exact ⟨t2, stp t2 a1, b1⟩
theorem j_callV {y : MethodName} {bytes : ByteArray} {maxL nA index ci b : Nat} {ret : Option FieldType} {wc ws' : List Cond} {rm : Room} {C : String} {T : u_T} {N : Nat} {fs : List Value} {As : List Value} {w : va_W} {S : Type} {post : Option Value → S → Prop} {Bo Bn : S → va_W} (X : jX p s m args c cc n own Ts G A) (hd : decode cc pc = .ok (.invokevirtual index, 3)) (hM : Ct l y wc rm G (.ref b :: As) w post Bo Bn)
    (hT : GoodIn Ts (wsV own index C y wc)) (hw : wc = Cond.code y bytes maxL ret :: ws') (hy : y.cls = C ∧ y.cls ≠ "java/lang/invoke/MethodHandle" ∧ y.cls ≠ "java/lang/invoke/VarHandle" ∧ (parseMethodDescriptor y.desc).map (fun d => d.parameters.length) = some nA) (hR : rm.frames + 1 ≤ R.frames ∧ 8 + (maxL + 11) + rm.locals ≤ R.locals)
    (q0 : Nat) (hb : w[q0]? = some (b, .inr (ci, fs))) (hc : vwCl[ci]? = some (C, T, N)) (is : List Nat) (hC : is.map (fun i => ws[i]?) = w.map some) (hn : va_nd is = true)
    (hlen : As.length = nA) (hst : st = As.reverse ++ .ref b :: rest) (hW : (rest.map fun v => v.category).sum ≤ 8) (hf : kc + rm.cells ≤ R.cells ∧ ks + rm.slots ≤ R.slots)
    (kk : ∀ (v : Option Value) (u : S), post v u → J p l e R s m args below meth c Q G A n (kc + rm.cells) (ks + rm.slots) (pc + 3) L (v.toList ++ rest) (pw_put ws is (Bo u) ++ Bn u)) : J p l e R s m args below meth c Q G A n kc ks pc L st ws := by
  refine j_run (a := (Value.ref b :: As).toArray) X is hC hn hM.1 (fun H locs ls hl hP hD => ?_) kk
  exact va_runV X.1 (hM.2 H.size) (cwV nA X.hts hT hw rfl rfl hy hR) ⟨cP_blind, va_recv X.K hP (ci := ci) hc hb, fun U hU hW => ⟨rfl, by rw [hU], by rw [hU]; exact hP, va_K.moved hW.alike X.K, hD⟩⟩ rfl hlen hl.1 hst (lv_room hW) hd hf
theorem j_callS {y : MethodName} {bytes : ByteArray} {maxL nA index : Nat} {ret : Option FieldType} {wc ws' : List Cond} {rm : Room} {As : List Value} {w : va_W} {S : Type} {post : Option Value → S → Prop} {Bo Bn : S → va_W} (X : jX p s m args c cc n own Ts G A) (hd : decode cc pc = .ok (.invokestatic index, 3)) (hM : Ct l y wc rm G As w post Bo Bn)
    (hT : GoodIn Ts (va_wsS own index y wc)) (hw : wc = Cond.code y bytes maxL ret :: ws') (hy : y.cls ≠ "java/lang/invoke/MethodHandle" ∧ y.cls ≠ "java/lang/invoke/VarHandle" ∧ (parseMethodDescriptor y.desc).map (fun d => d.parameters.length) = some nA) (hR : rm.frames + 1 ≤ R.frames ∧ 8 + (maxL + 11) + rm.locals ≤ R.locals)
    (is : List Nat) (hC : is.map (fun i => ws[i]?) = w.map some) (hn : va_nd is = true)
    (hlen : As.length = nA) (hst : st = As.reverse ++ rest) (hW : (rest.map fun v => v.category).sum ≤ 8) (hf : kc + rm.cells ≤ R.cells ∧ ks + rm.slots ≤ R.slots)
    (kk : ∀ (v : Option Value) (u : S), post v u → J p l e R s m args below meth c Q G A n (kc + rm.cells) (ks + rm.slots) (pc + 3) L (v.toList ++ rest) (pw_put ws is (Bo u) ++ Bn u)) : J p l e R s m args below meth c Q G A n kc ks pc L st ws := by
  refine j_run (a := As.toArray) X is hC hn hM.1 (fun H locs ls hl hP hD => ?_) kk
  exact va_runS X.1 (hM.2 H.size) (va_cwS nA X.hts hT hw rfl rfl hy hR) ⟨cP_blind, fun U hU hW => ⟨rfl, by rw [hU], by rw [hU]; exact hP, va_K.moved hW.alike X.K, hD⟩⟩ rfl hlen hl.1 hst (lv_room hW) hd hf
end CR
/-- a method's end, whatever it answers -/
def jE (p : Program) (l : Launch) (e : Env) (R : Room) (s : State) (m : MethodId) (args : Array Value) (below : List Frame) (meth : Method) (c : Code) (Q : State → Prop) (cc : ByteArray) (G : jG) (A : Nat → Prop) (n : Nat) {S : Type} (post : Option Value → S → Prop) (Bo Bn : S → va_W) : Prop :=
  (∀ (pc : Nat) (L : List (Nat × Value)) (u : S), decode cc pc = .ok (.return_, 1) → post none u → meth.sig.returnType = none → J p l e R s m args below meth c Q G A n R.cells R.slots pc L [] (Bo u ++ Bn u)) ∧
  (∀ (pc : Nat) (L : List (Nat × Value)) (v : Int32) (u : S) (ty : FieldType), decode cc pc = .ok (.ireturn, 1) → post (some (.int v)) u → meth.sig.returnType = some ty → narrow ty (.int v) = .int v → J p l e R s m args below meth c Q G A n R.cells R.slots pc L [.int v] (Bo u ++ Bn u)) ∧
  (∀ (pc : Nat) (L : List (Nat × Value)) (v : Int64) (u : S), decode cc pc = .ok (.lreturn, 1) → post (some (.long v)) u → meth.sig.returnType = some .long → J p l e R s m args below meth c Q G A n R.cells R.slots pc L [.long v] (Bo u ++ Bn u))
theorem c_intro {l : Launch} {y : MethodName} {wc ws' : List Cond} {rm : Room} {G : jG} {av : List Value} {w : va_W} {S : Type} {post : Option Value → S → Prop} {Bo Bn : S → va_W} {cc : ByteArray} {maxL : Nat} {ret : Option FieldType}
    (hy : plainName y.cls = true) (hw : wc = Cond.code y cc maxL ret :: ws') (hlen : (lg_sl av).length ≤ maxL) (ha : ∀ u, (Bo u).map Prod.fst = w.map Prod.fst)
    (body : ∀ (p : Program) (e : Env) (s : State) (m : MethodId) (args : Array Value) (below : List Frame) (meth : Method) (c : Code) (Q : State → Prop) (A : Nat → Prop), jX p s m args c cc maxL y.cls wc G A → meth.sig.returnType = ret → meth.name = y.name → jE p l e rm s m args below meth c Q cc G A maxL post Bo Bn → J p l e rm s m args below meth c Q G A maxL 0 0 0 (lv_args 0 av) [] w) : Ct l y wc rm G av w post Bo Bn := by
  refine ⟨ha, fun sz => Met.ofW (cc := cc) (maxL := maxL) (ret := ret) hy hw ?_⟩
  intro p e s m args below meth c s₁ B hml hv
  obtain ⟨rfl, hsz, hP, hK, hD0⟩ := hv
  have hx := B.exec
  have hb := B.bytes
  have hr := B.returns
  have hts := atoms_spec (ws := wc) B.pre
  have hown : s.vm.findClass y.cls = some m.cls := findClass_of_methodNamed B.named
  have hlocks := B.notSynchronized
  have hnm : meth.name = y.name := (name_of_methodNamed B.named B.method).1
  subst hsz
  have hD := hD0.self (sz := s.heap.size)
  have hX : jX p s m av.toArray c cc maxL y.cls wc G (va_A w s.heap.size) := ⟨⟨hx, hb, hml, hown, hts⟩, hK, fun q h => Or.inr h⟩
  have hl := lv_entry av (n := maxL) hlen
  rw [lg_entry_eq]
  refine body p e s m av.toArray below meth c _ (va_A w s.heap.size) hX hr hnm ⟨?_, ?_, ?_⟩ s.heap [] _ hl hP hD va_S.rf
  · intro pc L u hd hp hr0 H locs ls hl hP9 hD9 hS
    exact W.vret hx hb hr0 (fun t ht hW => ⟨⟨none, u, rfl, hp, by rw [ht]; exact hP9, va_K.moved hW.alike hK, hD9⟩, hS.F ht⟩) hS.2.2 hd
  · intro pc L v u ty hd hp hr0 hn0 H locs ls hl hP9 hD9 hS
    exact W.zret (v := v) hx hb hr0 hn0 (fun t ht hW => ⟨⟨some (.int v), u, rfl, hp, by rw [ht]; exact hP9, va_K.moved hW.alike hK, hD9⟩, hS.F ht⟩) hS.2.2 hd
  · intro pc L v u hd hp hr0 H locs ls hl hP9 hD9 hS
    exact W.lret (v := v) hx hb hr0 (fun t ht hW => ⟨⟨some (.long v), u, rfl, hp, by rw [ht]; exact hP9, va_K.moved hW.alike hK, hD9⟩, hS.F ht⟩) hS.2.2 hd
