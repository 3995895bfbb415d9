/-! contracts over a larger world; facts that no word list holds; contracts of methods that throw -/
theorem pw_fst {W w w1 : va_W} {is : List Nat} (hC : is.map (fun i => W[i]?) = w.map some) (hn : va_nd is = true) (ha : w1.map Prod.fst = w.map Prod.fst) : (pw_put W is w1).map Prod.fst = W.map Prod.fst := by
  have hlw : is.length = w.length := by simpa using congrArg List.length hC
  have hl1 : w1.length = w.length := by simpa using congrArg List.length ha
  refine List.ext_getElem? (fun k => ?_)
  rw [List.getElem?_map, List.getElem?_map]
  cases hx : (pw_put W is w1)[k]? with
  | none =>
    have h1 : W.length ≤ k := by rw [List.getElem?_eq_none_iff, pw_len] at hx; exact hx
    rw [List.getElem?_eq_none_iff.mpr h1]
  | some x =>
    rcases pw_at is w1 W hn (hlw.trans hl1.symm) k x hx with ⟨j, h1, h2⟩ | ⟨-, h2⟩
    · have h3 : (w1.map Prod.fst)[j]? = some x.1 := by rw [List.getElem?_map, h2]; rfl
      rw [ha, List.getElem?_map] at h3
      cases hw : w[j]? with
      | none => rw [hw] at h3; cases h3
      | some y =>
        rw [hw] at h3
        rw [pw_pick hC h1 hw]; exact h3.symm
    · rw [h2]
theorem va_Asub {W w : va_W} {is : List Nat} {sz : Nat} (hC : is.map (fun i => W[i]?) = w.map some) : ∀ q, va_A w sz q → va_A W sz q := by
  rintro q (⟨j, e, hj⟩ | hq)
  · obtain ⟨k, -, h2⟩ := pw_pick' hC hj
    exact Or.inl ⟨k, e, h2⟩
  · exact Or.inr hq
theorem va_Psub {D : va_G} {cl : List vw_C} {W w : va_W} {is : List Nat} {H : Heap} (hC : is.map (fun i => W[i]?) = w.map some) (hP : va_P D cl W H) : va_P D cl w H := fun j x hx => by
  obtain ⟨k, _, h2⟩ := pw_pick' hC hx
  exact hP k x h2
def exS : List (Nat × String) := [(67, "no place"), (80, "the places are the same"), (92, "no such \x72"), (98, "no such direction"), (111, "no such shape"), (114, "no such part or limb"), (130, "one is an arc"), (132, "no root of what is below 0"), (172, "these can't be crossed"), (179, "nothing is crossed"), (182, "no such point"), (187, "no such axis or way of rounding"), (199, "divided by 0"), (202, "no such way of rounding"), (218, "no such limb")]
def eA : String := "java/lang/IllegalArgumentException"
def eB : String := "java/lang/IndexOutOfBoundsException"
def eC : String := "java/lang/IllegalStateException"
def eD : String := "java/lang/ArithmeticException"
def exC : List (String × String) := [(eA, eA), (eB, eB), (eC, eC), (eD, eD), (RX7, "NanoSigns$Shape"), (RX0, "NanoSigns$Shape")]
def exD : List MethodName := [⟨"NanoSigns$Shape", "holds", "(JJLNanoSigns$Whole;)Z"⟩, ⟨"java/lang/RuntimeException", "<init>", "(Ljava/lang/String;)V"⟩, ⟨"java/lang/Exception", "<init>", "(Ljava/lang/String;)V"⟩, ⟨"java/lang/Throwable", "<init>", "(Ljava/lang/String;)V"⟩]
def exN : List (String × String) := [(eA, eB), (eB, eC), (eB, eD), (RX7, RX0), (RX0, RX7)]
def exL : List (String × Nat × MethodName × String) := [(RX10, 17, yX4_init, RX10), (RX10, 24, yX6_init, RX10), (RX10, 31, yX1_init, RX10), (RX10, 38, yX2_init, RX10), (RX10, 45, yX5_init, RX10), (RX10, 52, yX9_init, RX10), (RX0, 1, yX8_init, RX10), (RX1, 18, yX9_init, RX10), (RX1, 25, yX3_init, RX10), (RX1, 38, yX5_init, RX10), (RX1, 9, yX6_init, RX10), (RX2, 9, yX9_init, RX10), (RX3, 9, yX5_init, RX10), (RX4, 9, yX9_init, RX10), (RX5, 9, yX9_init, RX10), (RX6, 11, yX9_init, RX10), (RX6, 23, yX5_init, RX10), (RX7, 1, yX8_init, RX10)]
/-- what the start gives beyond the words that every method can hand on -/
def exF (A : Nat → Prop) (U : State) (H : Heap) : Prop :=
  (vx_Zq Bundle.tN "UNASSIGNED_STACK" Bundle.steD A U H ∧ vx_Zq Bundle.tN "SUPPRESSED_SENTINEL" Bundle.listD A U H) ∧
  (∀ x ∈ exS, ∃ sa, vk_R RX10 x.1 x.2 sa U) ∧ (∀ x ∈ exC, va_Nw (.castable x.1 x.2) U) ∧ (∀ x ∈ exL, va_Nw (.methodLinkNest x.1 x.2.1 x.2.2.1 x.2.2.2) U) ∧ (∀ x ∈ exN, va_Nc x.1 x.2 U) ∧ va_AO "NanoSigns$Shape" U ∧ ∀ x ∈ exD, va_Nw (.declares x) U
theorem exF.to {A B : Nat → Prop} {s U : State} {H H1 : Heap} (h : exF A s H) (hW : s.WarmedH U.vm) (hk : ∀ a : Nat, a < H.size → ¬ A a → H1[a]? = H[a]?) (hAB : ∀ q, B q → A q) : exF B U H1 :=
  ⟨⟨((vx_Zq.moved hW.alike h.1.1).kept hk).narrow hAB, ((vx_Zq.moved hW.alike h.1.2).kept hk).narrow hAB⟩, fun x hx => by
    obtain ⟨sa, q⟩ := h.2.1 x hx
    exact ⟨sa, vk_R.warm hW q⟩, fun x hx => va_Nw.warmC hW (h.2.2.1 x hx), fun x hx => va_Nw.warmM hW (h.2.2.2.1 x hx), fun x hx => va_Nc.moved hW.alike (h.2.2.2.2.1 x hx), va_AO.moved hW.alike h.2.2.2.2.2.1, fun x hx => va_Nw.warmD hW (h.2.2.2.2.2.2 x hx)⟩
def cPX (G : jG) (w : va_W) (sz : Nat) : State → Prop := fun U => cP G w sz U ∧ exF (va_A w sz) U U.heap
theorem cPX_blind {G : jG} {av : List Value} {w : va_W} {sz : Nat} : FrameBlind (va_Pc av (cPX G w sz)) := fun a U g mk q => ⟨q.1, (cP_blind a U g mk ⟨q.1, q.2.1⟩).2, q.2.2.to (U := U.calling g mk a) (State.WarmedH.refl U) (fun _ _ _ => rfl) (fun _ h => h)⟩
/-- a contract that wants the facts -/
def Cf (l : Launch) (y : MethodName) (wc : List Cond) (rm : Room) (G : jG) (av : List Value) (w : va_W) {S : Type} (post : Option Value → S → Prop) (Bo Bn : S → va_W) : Prop :=
  (∀ u, (Bo u).map Prod.fst = w.map Prod.fst) ∧ ∀ sz, Met l y wc rm (va_Pc av (cPX G w sz)) (cQ G w sz post Bo Bn) rm.cells rm.slots (va_A w sz)
section CF
variable {l : Launch} {y : MethodName} {wc ws' : List Cond} {rm : Room} {G : jG} {av : List Value} {w W : va_W} {S : Type} {post : Option Value → S → Prop} {Bo Bn : S → va_W}
theorem Ct.cf (h : Ct l y wc rm G av w post Bo Bn) : Cf l y wc rm G av w post Bo Bn := ⟨h.1, fun sz => MetFree.mono (h.2 sz) (fun a s q => ⟨q.1, q.2.1⟩) (fun _ _ _ _ _ k => k) (fun _ _ _ _ _ k => k)⟩
theorem cq_frame (is : List Nat) (hC : is.map (fun i => W[i]?) = w.map some) (hn : va_nd is = true) (h1 : ∀ u, (Bo u).map Prod.fst = w.map Prod.fst) {sz : Nat} {a : Array Value} {s t : State} {o : Outcome} (hp : cP G W sz s) (hq : cQ G w sz post Bo Bn a s o t ∧ ∃ L, FrameEnd s o t L rm.cells rm.slots ∧ ∀ q ∈ L, va_A w sz q.base) :
    cQ G W sz post (fun u => pw_put W is (Bo u)) Bn a s o t ∧ ∃ L, FrameEnd s o t L rm.cells rm.slots ∧ ∀ q ∈ L, va_A W sz q.base := by
  obtain ⟨⟨⟨v, u, hv, hp1, hP1, hK1, hD1⟩, hz, hk⟩, L, hL1, hL2⟩ := hq
  obtain ⟨hsz, hP, hK, hD⟩ := hp
  subst hsz
  have hF := va_Asub (sz := s.heap.size) hC
  obtain ⟨g1, g2⟩ := pw_join hP (hD.self (sz := s.heap.size)) is hC hn (h1 u) hk hF hP1 hD1
  exact ⟨⟨⟨v, u, hv, hp1, g1, hK1, g2⟩, hz, fun q hq hn9 => hk q hq (fun z => hn9 (hF q z))⟩, L, hL1, fun q hq => hF _ (hL2 q hq)⟩
theorem ct_frame (h : Ct l y wc rm G av w post Bo Bn) (is : List Nat) (hC : is.map (fun i => W[i]?) = w.map some) (hn : va_nd is = true) : Ct l y wc rm G av W post (fun u => pw_put W is (Bo u)) Bn :=
  ⟨fun u => pw_fst hC hn (h.1 u), fun sz => MetFree.mono (h.2 sz) (fun a s hp => ⟨hp.1, hp.2.1, va_Psub hC hp.2.2.1, hp.2.2.2.1, hp.2.2.2.2.sub is hn hC⟩) (fun _ _ _ _ _ k => k) (fun a s o t hp hq => cq_frame is hC hn h.1 hp.2 hq)⟩
theorem cf_frame (h : Cf l y wc rm G av w post Bo Bn) (is : List Nat) (hC : is.map (fun i => W[i]?) = w.map some) (hn : va_nd is = true) : Cf l y wc rm G av W post (fun u => pw_put W is (Bo u)) Bn :=
  ⟨fun u => pw_fst hC hn (h.1 u), fun sz => MetFree.mono (h.2 sz) (fun a s hp => ⟨hp.1, ⟨hp.2.1.1, va_Psub hC hp.2.1.2.1, hp.2.1.2.2.1, hp.2.1.2.2.2.sub is hn hC⟩, hp.2.2.to (State.WarmedH.refl s) (fun _ _ _ => rfl) (va_Asub hC)⟩) (fun _ _ _ _ _ k => k) (fun a s o t hp hq => cq_frame is hC hn h.1 hp.2.1 hq)⟩
/-- the same end in other words -/
theorem cq_end {S' : Type} {post' : Option Value → S' → Prop} {Bo' Bn' : S' → va_W} (hf : ∀ v u, post v u → ∃ u', post' v u' ∧ Bo' u' = Bo u ∧ Bn' u' = Bn u) {sz : Nat} {a : Array Value} {s t : State} {o : Outcome} (hq : cQ G w sz post Bo Bn a s o t) : cQ G w sz post' Bo' Bn' a s o t := by
  obtain ⟨⟨v, u, hv, hp1, hP1, hK1, hD1⟩, hF⟩ := hq
  obtain ⟨u', h1, h2, h3⟩ := hf v u hp1
  exact ⟨⟨v, u', hv, h1, by rw [h2, h3]; exact hP1, hK1, by rw [h2, h3]; exact hD1⟩, hF⟩
theorem ct_end {S' : Type} {post' : Option Value → S' → Prop} {Bo' Bn' : S' → va_W} (h : Ct l y wc rm G av w post Bo Bn) (ha : ∀ u, (Bo' u).map Prod.fst = w.map Prod.fst) (hf : ∀ v u, post v u → ∃ u', post' v u' ∧ Bo' u' = Bo u ∧ Bn' u' = Bn u) : Ct l y wc rm G av w post' Bo' Bn' :=
  ⟨ha, fun sz => MetFree.mono (h.2 sz) (fun _ _ hp => hp) (fun _ _ _ _ _ k => k) (fun a s o t hp hq => ⟨cq_end hf hq.1, hq.2⟩)⟩
theorem cf_end {S' : Type} {post' : Option Value → S' → Prop} {Bo' Bn' : S' → va_W} (h : Cf l y wc rm G av w post Bo Bn) (ha : ∀ u, (Bo' u).map Prod.fst = w.map Prod.fst) (hf : ∀ v u, post v u → ∃ u', post' v u' ∧ Bo' u' = Bo u ∧ Bn' u' = Bn u) : Cf l y wc rm G av w post' Bo' Bn' :=
  ⟨ha, fun sz => MetFree.mono (h.2 sz) (fun _ _ hp => hp) (fun _ _ _ _ _ k => k) (fun a s o t hp hq => ⟨cq_end hf hq.1, hq.2⟩)⟩
theorem cf_intro {cc : ByteArray} {maxL : Nat} {ret : Option FieldType}
    (hy : plainName y.cls = true) (hw : wc = Cond.code y cc maxL ret :: ws') (hlen : (lg_sl av).length ≤ maxL) (ha : ∀ u, (Bo u).map Prod.fst = w.map Prod.fst)
    (body : ∀ (p : Program) (e : Env) (s : State) (m : MethodId) (args : Array Value) (below : List Frame) (meth : Method) (c : Code) (Q : State → Prop) (A : Nat → Prop), jX p s m args c cc maxL y.cls wc G A → exF A s s.heap → meth.sig.returnType = ret → meth.name = y.name → jE p l e rm s m args below meth c Q cc G A maxL post Bo Bn → J p l e rm s m args below meth c Q G A maxL 0 0 0 (lv_args 0 av) [] w) : Cf l y wc rm G av w post Bo Bn := by
  refine ⟨ha, fun sz => Met.ofW (cc := cc) (maxL := maxL) (ret := ret) hy hw ?_⟩
  intro p e s m args below meth c s₁ B hml hv
  obtain ⟨rfl, ⟨hsz, hP, hK, hD0⟩, hF⟩ := hv
  have hx := B.exec
  have hb := B.bytes
  have hr := B.returns
  have hts := atoms_spec (ws := wc) B.pre
  have hown : s.vm.findClass y.cls = some m.cls := findClass_of_methodNamed B.named
  have hlocks := B.notSynchronized
  have hnm : meth.name = y.name := (name_of_methodNamed B.named B.method).1
  subst hsz
  have hD := hD0.self (sz := s.heap.size)
  have hX : jX p s m av.toArray c cc maxL y.cls wc G (va_A w s.heap.size) := ⟨⟨hx, hb, hml, hown, hts⟩, hK, fun q h => Or.inr h⟩
  have hl := lv_entry av (n := maxL) hlen
  rw [lg_entry_eq]
  refine body p e s m av.toArray below meth c _ (va_A w s.heap.size) hX hF hr hnm ⟨?_, ?_, ?_⟩ s.heap [] _ hl hP hD va_S.rf
  · intro pc L u hd hp hr0 H locs ls hl hP9 hD9 hS
    exact W.vret hx hb hr0 (fun t ht hW => ⟨⟨none, u, rfl, hp, by rw [ht]; exact hP9, va_K.moved hW.alike hK, hD9⟩, hS.F ht⟩) hS.2.2 hd
  · intro pc L v u ty hd hp hr0 hn0 H locs ls hl hP9 hD9 hS
    exact W.zret (v := v) hx hb hr0 hn0 (fun t ht hW => ⟨⟨some (.int v), u, rfl, hp, by rw [ht]; exact hP9, va_K.moved hW.alike hK, hD9⟩, hS.F ht⟩) hS.2.2 hd
  · intro pc L v u hd hp hr0 H locs ls hl hP9 hD9 hS
    exact W.lret (v := v) hx hb hr0 (fun t ht hW => ⟨⟨some (.long v), u, rfl, hp, by rw [ht]; exact hP9, va_K.moved hW.alike hK, hD9⟩, hS.F ht⟩) hS.2.2 hd
/-- a body with handlers of its own that lets nothing out -/
theorem cf_introW {cc : ByteArray} {maxL : Nat} {ret : Option FieldType} {hh : List (Nat × Nat × Nat × Nat)}
    (hy : plainName y.cls = true) (hw : wc = Cond.codeWith y cc maxL ret hh :: ws') (hlen : (lg_sl av).length ≤ maxL) (ha : ∀ u, (Bo u).map Prod.fst = w.map Prod.fst)
    (body : ∀ (p : Program) (e : Env) (s : State) (m : MethodId) (args : Array Value) (below : List Frame) (meth : Method) (c : Code) (Q : State → Prop) (A : Nat → Prop), jX p s m args c cc maxL y.cls wc G A → exF A s s.heap → c.exceptionTable.toList = tableOf hh → meth.sig.returnType = ret → jE p l e rm s m args below meth c Q cc G A maxL post Bo Bn → J p l e rm s m args below meth c Q G A maxL 0 0 0 (lv_args 0 av) [] w) : Cf l y wc rm G av w post Bo Bn := by
  refine ⟨ha, fun sz => ?_⟩
  have hv : vx_Met l y wc rm (va_Pc av (cPX G w sz)) (cQ G w sz post Bo Bn) (fun _ _ _ => False) rm.cells rm.slots (va_A w sz) := by
    refine vx_ofWH (cc := cc) (maxL := maxL) (ret := ret) (hh := hh) hy hw ?_
    intro p e s m args below meth c s₁ B hml hv
    obtain ⟨rfl, ⟨hsz, hP, hK, hD0⟩, hF⟩ := hv
    have hx := B.exec
    have hb := B.bytes
    have hr := B.returns
    have hts := atoms_spec (ws := wc) B.pre
    have hown : s.vm.findClass y.cls = some m.cls := findClass_of_methodNamed B.named
    have htab : c.exceptionTable.toList = tableOf hh := vx_table (x := y) B (hts _ (by rw [hw]; exact List.mem_cons_self))
    subst hsz
    have hD := hD0.self (sz := s.heap.size)
    have hX : jX p s m av.toArray c cc maxL y.cls wc G (va_A w s.heap.size) := ⟨⟨hx, hb, hml, hown, hts⟩, hK, fun q h => Or.inr h⟩
    have hl := lv_entry av (n := maxL) hlen
    rw [lg_entry_eq]
    refine body p e s m av.toArray below meth c _ (va_A w s.heap.size) hX hF htab hr ⟨?_, ?_, ?_⟩ s.heap [] _ hl hP hD va_S.rf
    · intro pc L u hd hp hr0 H locs ls hl hP9 hD9 hS
      exact vx_ret (W.vret hx hb hr0 (fun t ht hW => ⟨⟨none, u, rfl, hp, by rw [ht]; exact hP9, va_K.moved hW.alike hK, hD9⟩, hS.F ht⟩) hS.2.2 hd)
    · intro pc L v u ty hd hp hr0 hn0 H locs ls hl hP9 hD9 hS
      exact vx_ret (W.zret (v := v) hx hb hr0 hn0 (fun t ht hW => ⟨⟨some (.int v), u, rfl, hp, by rw [ht]; exact hP9, va_K.moved hW.alike hK, hD9⟩, hS.F ht⟩) hS.2.2 hd)
    · intro pc L v u hd hp hr0 H locs ls hl hP9 hD9 hS
      exact vx_ret (W.lret (v := v) hx hb hr0 (fun t ht hW => ⟨⟨some (.long v), u, rfl, hp, by rw [ht]; exact hP9, va_K.moved hW.alike hK, hD9⟩, hS.F ht⟩) hS.2.2 hd)
  refine MetFree.mono hv (fun _ _ h => h) (fun _ _ _ _ _ h => h) (fun a s o t _ h => ?_)
  rcases h with h | ⟨q, -, E, ce, L, hx, -⟩
  · exact h
  · exact hx.elim
end CF
/-- where a method has thrown: what is left of its cells -/
def xC (G : jG) (A : Nat → Prop) {S : Type} (post : S → Prop) (Bo : S → va_W) (cls : String) : String → State → State → Prop := fun E st t => E = cls ∧ (∃ u : S, post u ∧ va_P G.1 vwCl (Bo u) t.heap ∧ va_D A (Bo u)) ∧ va_K G.1 vwCl (jT G) t ∧ va_F A st t
/-- a method that throws -/
def CtX (l : Launch) (y : MethodName) (wc : List Cond) (rm : Room) (G : jG) (av : List Value) (w : va_W) (cls : String) {S : Type} (post : S → Prop) (Bo : S → va_W) : Prop :=
  (∀ u, (Bo u).map Prod.fst = w.map Prod.fst) ∧ ∀ sz, vx_Met l y wc rm (va_Pc av (cPX G w sz)) (fun _ _ _ _ => False) (xC G (va_A w sz) post Bo cls) rm.cells rm.slots (va_A w sz)
theorem c_introX {l : Launch} {y : MethodName} {wc ws' : List Cond} {rm : Room} {G : jG} {av : List Value} {w : va_W} {cls : String} {S : Type} {post : S → Prop} {Bo : S → va_W} {cc : ByteArray} {maxL : Nat} {ret : Option FieldType}
    (hy : plainName y.cls = true) (hw : wc = Cond.code y cc maxL ret :: ws') (hlen : (lg_sl av).length ≤ maxL) (ha : ∀ u, (Bo u).map Prod.fst = w.map Prod.fst)
    (body : ∀ (p : Program) (e : Env) (s : State) (m : MethodId) (args : Array Value) (below : List Frame) (meth : Method) (c : Code) (Q : State → Prop) (A : Nat → Prop), Q = vx_MQ below (fun _ _ _ _ => False) (xC G A post Bo cls) args s rm.cells rm.slots A → jX p s m args c cc maxL y.cls wc G A → exF A s s.heap → meth.locks = false → (∀ x ∈ c.exceptionTable.toList, False) → J p l e rm s m args below meth c Q G A maxL 0 0 0 (lv_args 0 av) [] w) : CtX l y wc rm G av w cls post Bo := by
  refine ⟨ha, fun sz => vx_ofW (cc := cc) (maxL := maxL) (ret := ret) hy hw ?_⟩
  intro p e s m args below meth c s₁ B hml ht hv
  obtain ⟨rfl, ⟨hsz, hP, hK, hD0⟩, hF⟩ := hv
  have hx := B.exec
  have hb := B.bytes
  have hts := atoms_spec (ws := wc) B.pre
  have hown : s.vm.findClass y.cls = some m.cls := findClass_of_methodNamed B.named
  subst hsz
  have hD := hD0.self (sz := s.heap.size)
  have hX : jX p s m av.toArray c cc maxL y.cls wc G (va_A w s.heap.size) := ⟨⟨hx, hb, hml, hown, hts⟩, hK, fun q h => Or.inr h⟩
  have hl := lv_entry av (n := maxL) hlen
  rw [lg_entry_eq]
  exact body p e s m av.toArray below meth c _ (va_A w s.heap.size) rfl hX hF B.notSynchronized ht s.heap [] _ hl hP hD va_S.rf
section JX
variable {p : Program} {l : Launch} {e : Env} {R : Room} {s : State} {m : MethodId} {args : Array Value} {below : List Frame} {meth : Method} {c : Code} {Q : State → Prop} {cc : ByteArray} {n : Nat} {own : String} {Ts : List Cond} {G : jG} {A : Nat → Prop} {kc ks pc : Nat} {L : List (Nat × Value)} {st rest : List Value} {ws : va_W}
theorem j_throwS {Qc : Array Value → State → Outcome → State → Prop} {cls text : String} {names : List String} {ik is ic : Nat} {S : Type} {post : S → Prop} {Bo : S → va_W} (X : jX p s m args c cc n own Ts G A) (ho : own = RX10) (hl : l.stackTraces = false) (hF : exF A s s.heap) (hlk : meth.locks = false) (ht : ∀ x ∈ c.exceptionTable.toList, False)
    (d0 : decode cc pc = .ok (.new ik, 3)) (d3 : decode cc (pc + 3) = .ok (.dup, 1)) (d4 : decode cc (pc + 4) = .ok (.ldc is, 2)) (d6 : decode cc (pc + 6) = .ok (.invokespecial ic, 3)) (d9 : decode cc (pc + 9) = .ok (.athrow, 1))
    (hcls : Bundle.fit cls = true) (hnames : ∀ n ∈ names, Bundle.fit n = true) (hk : Cond.classLink own ik cls ∈ Ts) (hini : Cond.initialized cls ∈ Ts) (hstr : (is, text) ∈ exS) (hcc : (cls, cls) ∈ exC) (hat : ∀ w ∈ (vx_atS own ic cls names).filter goodWord, w ∈ Ts) (hbad : ∀ w ∈ (vx_atS own ic cls names).filter (fun w => !goodWord w), w ∈ Cond.castable cls cls :: exD.map Cond.declares)
    (hgood : ∀ w ∈ Cond.classLink own ik cls :: Cond.initialized cls :: vx_atS own ic cls names, vx_ot w = true) (hRf : names.length + 3 < R.frames) (hRl : (st.map fun v => v.category).sum + (13 * (names.length + 1) + 43) ≤ R.locals) (hRc : kc + 1 ≤ R.cells) (hRs : ks + 6 ≤ R.slots) (u : S) (hu : post u) (hw : ws = Bo u) :
    J p l e R s m args below meth c (vx_MQ below Qc (xC G A post Bo cls) args s R.cells R.slots A) G A n kc ks pc L st ws := by
  intro H locs ls hls hP hD hS
  obtain ⟨sa, hsa⟩ := hF.2.1 _ hstr
  subst ho
  exact vx_throwS X.exec X.bytes hl X.self hcls hnames (X.hts _ hk) (X.hts _ hini) hsa (vx_hat (fun w hw => X.hts w (hat w hw)) hbad (vx_c (va_Nw.use (A := args) rfl (hF.2.2.1 _ hcc)) (fun w hw => by
    obtain ⟨x, hx, rfl⟩ := List.mem_map.mp hw
    exact va_Nw.use (A := args) rfl (hF.2.2.2.2.2.2 x hx)))) hgood hF.1.1 hF.1.2 hS (hls.1.trans X.locals.symm) d0 d3 d4 d6 d9 (fun x hx => (ht x hx).elim) hRf hRl hRc hRs hlk
    (fun t hvm hsz hk => ⟨rfl, ⟨u, hu, by rw [← hw]; exact fun k q hq => (hP k q hq).kept (hk q.1 (hP k q hq).lt), by rw [← hw]; exact hD⟩, va_K.moved hvm X.K, Nat.le_trans hS.1 hsz, fun q hq hA => by rw [hk q (Nat.lt_of_lt_of_le hq hS.1)]; exact hS.2.1 q hq hA⟩) hS.2.2 hRc hRs
/-- a run of a callee that wants the facts -/
theorem j_runF {a : Array Value} {mc ms : Nat} {w : va_W} {S : Type} {post : Option Value → S → Prop} {Bo Bn : S → va_W} (X : jX p s m args c cc n own Ts G A) (is : List Nat) (hC : is.map (fun i => ws[i]?) = w.map some) (hn : va_nd is = true) (ha : ∀ u, (Bo u).map Prod.fst = w.map Prod.fst)
    (hr : ∀ (H : Heap) (locs : List Loc) (ls : Array Slot), lv_has ls n L → va_P G.1 vwCl w H → va_D (fun _ => True) w → va_S A s.heap H locs → (∀ q, va_A w H.size q → A q) → va_Run p l e R s m args below meth c H locs kc ks mc ms (F0 m pc ls st) rest (cQ G w H.size post Bo Bn a) (va_A w H.size))
    (kk : ∀ (v : Option Value) (u : S), post v u → J p l e R s m args below meth c Q G A n (kc + mc) (ks + ms) (pc + 3) L (v.toList ++ rest) (pw_put ws is (Bo u) ++ Bn u)) : J p l e R s m args below meth c Q G A n kc ks pc L st ws := by
  intro H locs ls hl hP hD hS
  have hF := va_free (wc := w) hD hS X.new is hC
  have hDw : va_D A w := hD.sub is hn hC
  intro T hT X1
  obtain ⟨v, st₀, t, T', L1, h0, X', hL, e1, e2, ⟨⟨v', u, hv, hp, hP1, hK1, hD1⟩, hz, hk⟩, stp⟩ := hr H locs ls hl (va_Psub hC hP) (hDw.weaken (fun _ _ _ _ => trivial)) hS hF T hT X1
  cases hv
  rw [h0] at hz hk
  rw [← e1] at hP1 hz hk
  obtain ⟨g1, g2⟩ := pw_join hP hD is hC hn (ha u) hk hF hP1 hD1
  obtain ⟨t2, a1, b1⟩ := kk v u hp T'.heap (locs ++ L1) ls hl g1 g2 ⟨Nat.le_trans hS.1 hz, fun q h1 h2 => by rw [hk q (Nat.lt_of_lt_of_le h1 hS.1) (fun z => h2 (hF q z))]; exact hS.2.1 q h1 h2, fun q hq => by
      rcases List.mem_append.mp hq with h | h
      · exact hS.2.2 q h
      · exact hF _ (hL q h)⟩ T' rfl X'
  exact ⟨t2, stp t2 a1, b1⟩
theorem j_callVF {y : MethodName} {bytes : ByteArray} {maxL nA index ci b : Nat} {ret : Option FieldType} {wc ws' : List Cond} {rm : Room} {C : String} {T : u_T} {N : Nat} {fs : List Value} {As : List Value} {w : va_W} {S : Type} {post : Option Value → S → Prop} {Bo Bn : S → va_W} (X : jX p s m args c cc n own Ts G A) (hF : exF A s s.heap) (hd : decode cc pc = .ok (.invokevirtual index, 3)) (hM : Cf l y wc rm G (.ref b :: As) w post Bo Bn)
    (hT : GoodIn Ts (wsV own index C y wc)) (hw : wc = Cond.code y bytes maxL ret :: ws') (hy : y.cls = C ∧ y.cls ≠ "java/lang/invoke/MethodHandle" ∧ y.cls ≠ "java/lang/invoke/VarHandle" ∧ (parseMethodDescriptor y.desc).map (fun d => d.parameters.length) = some nA) (hR : rm.frames + 1 ≤ R.frames ∧ 8 + (maxL + 11) + rm.locals ≤ R.locals)
    (q0 : Nat) (hb : w[q0]? = some (b, .inr (ci, fs))) (hc : vwCl[ci]? = some (C, T, N)) (is : List Nat) (hC : is.map (fun i => ws[i]?) = w.map some) (hn : va_nd is = true)
    (hlen : As.length = nA) (hst : st = As.reverse ++ .ref b :: rest) (hW : (rest.map fun v => v.category).sum ≤ 8) (hf : kc + rm.cells ≤ R.cells ∧ ks + rm.slots ≤ R.slots)
    (kk : ∀ (v : Option Value) (u : S), post v u → J p l e R s m args below meth c Q G A n (kc + rm.cells) (ks + rm.slots) (pc + 3) L (v.toList ++ rest) (pw_put ws is (Bo u) ++ Bn u)) : J p l e R s m args below meth c Q G A n kc ks pc L st ws := by
  refine j_runF (a := (Value.ref b :: As).toArray) X is hC hn hM.1 (fun H locs ls hl hP hD hS hA => ?_) kk
  exact va_runV X.1 (hM.2 H.size) (cwV nA X.hts hT hw rfl rfl hy hR) ⟨cPX_blind, va_recv X.K hP (ci := ci) hc hb, fun U hU hW => ⟨rfl, ⟨by rw [hU], by rw [hU]; exact hP, va_K.moved hW.alike X.K, hD⟩, by rw [hU]; exact hF.to hW hS.2.1 hA⟩⟩ rfl hlen hl.1 hst (lv_room hW) hd hf
/-- a static call of a method with handlers -/
theorem j_callSW {y : MethodName} {bytes : ByteArray} {maxL nA index : Nat} {ret : Option FieldType} {hh : List (Nat × Nat × Nat × Nat)} {wc ws' : List Cond} {rm : Room} {As : List Value} {w : va_W} {S : Type} {post : Option Value → S → Prop} {Bo Bn : S → va_W} (X : jX p s m args c cc n own Ts G A) (hF : exF A s s.heap) (hd : decode cc pc = .ok (.invokestatic index, 3)) (hM : Cf l y wc rm G As w post Bo Bn)
    (hT : GoodIn Ts (va_wsS own index y wc)) (hw : wc = Cond.codeWith y bytes maxL ret hh :: ws') (hy : y.cls ≠ "java/lang/invoke/MethodHandle" ∧ y.cls ≠ "java/lang/invoke/VarHandle" ∧ (parseMethodDescriptor y.desc).map (fun d => d.parameters.length) = some nA) (hR : rm.frames + 1 ≤ R.frames ∧ 8 + (maxL + 11) + rm.locals ≤ R.locals)
    (is : List Nat) (hC : is.map (fun i => ws[i]?) = w.map some) (hn : va_nd is = true)
    (hlen : As.length = nA) (hst : st = As.reverse ++ rest) (hW : (rest.map fun v => v.category).sum ≤ 8) (hf : kc + rm.cells ≤ R.cells ∧ ks + rm.slots ≤ R.slots)
    (kk : ∀ (v : Option Value) (u : S), post v u → J p l e R s m args below meth c Q G A n (kc + rm.cells) (ks + rm.slots) (pc + 3) L (v.toList ++ rest) (pw_put ws is (Bo u) ++ Bn u)) : J p l e R s m args below meth c Q G A n kc ks pc L st ws := by
  refine j_runF (a := As.toArray) X is hC hn hM.1 (fun H locs ls hl hP hD hS hA => ?_) kk
  exact vx_runSW X.1 (hM.2 H.size) (vx_cwSW nA X.hts hT hw rfl rfl hy hR) ⟨cPX_blind, fun U hU hW => ⟨rfl, ⟨by rw [hU], by rw [hU]; exact hP, va_K.moved hW.alike X.K, hD⟩, by rw [hU]; exact hF.to hW hS.2.1 hA⟩⟩ rfl hlen hl.1 hst (lv_room hW) hd hf
/-- a call that throws, caught here -/
theorem j_callVX {y : MethodName} {bytes : ByteArray} {maxL nA index ci b : Nat} {ret : Option FieldType} {wc ws' : List Cond} {rm : Room} {C cls : String} {T : u_T} {N : Nat} {fs : List Value} {As : List Value} {w : va_W} {S : Type} {post : S → Prop} {Bo : S → va_W} (X : jX p s m args c cc n own Ts G A) (hF : exF A s s.heap) (hd : decode cc pc = .ok (.invokevirtual index, 3)) (hM : CtX l y wc rm G (.ref b :: As) w cls post Bo)
    (hT : GoodIn Ts (wsV own index C y wc)) (hw : wc = Cond.code y bytes maxL ret :: ws') (hy : y.cls = C ∧ y.cls ≠ "java/lang/invoke/MethodHandle" ∧ y.cls ≠ "java/lang/invoke/VarHandle" ∧ (parseMethodDescriptor y.desc).map (fun d => d.parameters.length) = some nA) (hR : rm.frames + 1 ≤ R.frames ∧ 8 + (maxL + 11) + rm.locals ≤ R.locals)
    (q0 : Nat) (hb : w[q0]? = some (b, .inr (ci, fs))) (hc : vwCl[ci]? = some (C, T, N)) (is : List Nat) (hC : is.map (fun i => ws[i]?) = w.map some) (hn : va_nd is = true)
    (hlen : As.length = nA) (hst : st = As.reverse ++ .ref b :: rest) (hW : (rest.map fun v => v.category).sum ≤ 8) (hf : kc + rm.cells ≤ R.cells ∧ ks + rm.slots ≤ R.slots)
    (pre : List ExceptionTableEntry) (x : ExceptionTableEntry) (suf : List ExceptionTableEntry) (hsplit : c.exceptionTable.toList = pre ++ x :: suf) (hpass : ∀ z ∈ pre, z.catchType ≠ 0 ∧ ∃ nm : String, Cond.classLink own z.catchType nm ∈ Ts ∧ (cls, nm) ∈ exN) (hx : covers x pc = true) (h0 : x.catchType ≠ 0) (hlink : Cond.classLink own x.catchType cls ∈ Ts) (hcc : (cls, cls) ∈ exC)
    (kk : ∀ (q : Nat) (u : S), post u → J p l e R s m args below meth c Q G A n (kc + rm.cells) (ks + rm.slots) x.handlerPc L [.ref q] (pw_put ws is (Bo u))) : J p l e R s m args below meth c Q G A n kc ks pc L st ws := by
  intro H locs ls hl hP hD hS
  have hA := va_free (wc := w) hD hS X.new is hC
  have hDw : va_D A w := hD.sub is hn hC
  have hPw := va_Psub hC hP
  have hr := vx_runV (p := p) (e := e) (below := below) (meth := meth) (locs := locs) (cells := kc) (slots := ks) (rest := rest) (g := F0 m pc ls st) X.1 (hM.2 H.size) (cwV nA X.hts hT hw rfl rfl hy hR) ⟨cPX_blind, va_recv X.K hPw (ci := ci) hc hb, fun U hU hW => ⟨rfl, ⟨by rw [hU], by rw [hU]; exact hPw, va_K.moved hW.alike X.K, hDw.weaken (fun _ _ _ _ => trivial)⟩, by rw [hU]; exact hF.to hW hS.2.1 hA⟩⟩ rfl hlen hl.1 hst (lv_room hW) hd hf
  intro T hT X1
  rcases hr T hT X1 with ⟨v, st₀, t, T', L1, h9, X', hL, e1, e2, hfalse, stp⟩ | ⟨q, st₀, t, T', L1, E, ce, h9, X', hL, e1, e2, ⟨rfl, ⟨u, hu, hP1, hD1⟩, hK1, hz, hk⟩, hce, hcv, hcl, stp⟩
  · exact hfalse.elim
  · rw [h9] at hz hk
    rw [← e1] at hP1 hz hk
    obtain ⟨g1, g2⟩ := pw_join (wn := []) hP hD is hC hn (hM.1 u) hk hA (by rw [List.append_nil]; exact hP1) (by rw [List.append_nil]; exact hD1)
    rw [List.append_nil] at g1 g2
    have kw := vx_catch (ls := ls) (rest := rest) (pc := pc) (name := E) X.self pre x suf hsplit (fun z hz9 => by
        obtain ⟨n1, nm, n2, n3⟩ := hpass z hz9
        exact Or.inr ⟨n1, nm, X.hts _ n2, hF.2.2.2.2.1 _ n3⟩) hx h0 (X.hts _ hlink) (va_Nw.use (A := args) rfl (hF.2.2.1 _ hcc)) (by rw [e1]; exact hce) hcv hcl (kk q u hu T'.heap (locs ++ L1) ls hl g1 g2 ⟨Nat.le_trans hS.1 hz, fun q h1 h2 => by rw [hk q (Nat.lt_of_lt_of_le h1 hS.1) (fun z => h2 (hA q z))]; exact hS.2.1 q h1 h2, fun q hq => by
          rcases List.mem_append.mp hq with h | h
          · exact hS.2.2 q h
          · exact hA _ (hL q h)⟩)
    obtain ⟨t2, a1, b1⟩ := kw T' rfl X'
    exact ⟨t2, stp.trans a1, b1⟩
end JX
