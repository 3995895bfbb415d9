/-! rules for objects: casts, rows of shapes, making things -/
section JN
variable {p : Program} {l : Launch} {e : Env} {R : Room} {s : State} {m : MethodId} {args : Array Value} {below : List Frame} {meth : Method} {c : Code} {Q : State → Prop} {cc : ByteArray} {n : Nat} {own : String} {Ts : List Cond} {G : jG} {A : Nat → Prop} {kc ks pc : Nat} {L : List (Nat × Value)} {st rest : List Value} {ws : va_W}
theorem j_inst {index ci b N : Nat} {nm : String} {T : u_T} {fs : List Value} (X : jX p s m args c cc n own Ts G A) (hd : decode cc pc = .ok (.instanceof index, 3)) (q0 : Nat) (hb : ws[q0]? = some (b, .inr (ci, fs))) (hc : vwCl[ci]? = some (nm, T, N)) (hlink : Cond.classLink own index nm ∈ Ts) (k : J p l e R s m args below meth c Q G A n kc ks (pc + 3) L (.int 1 :: st) ws) : J p l e R s m args below meth c Q G A n kc ks pc L (.ref b :: st) ws :=
  fun H locs ls hl hP hD hS => va_instS X.exec X.bytes X.self (X.hts _ hlink) (X.K.1 ci _ hc).2 (va_recv X.K hP hc hb) hd (k H locs ls hl hP hD hS)
theorem j_instN {index ci b N : Nat} {C nm : String} {T : u_T} {fs : List Value} (X : jX p s m args c cc n own Ts G A) (hd : decode cc pc = .ok (.instanceof index, 3)) (q0 : Nat) (hb : ws[q0]? = some (b, .inr (ci, fs))) (hc : vwCl[ci]? = some (C, T, N)) (hlink : Cond.classLink own index nm ∈ Ts) (hN : va_Nc C nm s) (k : J p l e R s m args below meth c Q G A n kc ks (pc + 3) L (.int 0 :: st) ws) : J p l e R s m args below meth c Q G A n kc ks pc L (.ref b :: st) ws :=
  fun H locs ls hl hP hD hS => va_instNo X.exec X.bytes X.self (X.hts _ hlink) hN (va_recv X.K hP hc hb) hd (k H locs ls hl hP hD hS)
theorem j_cast {index ci b N : Nat} {nm : String} {T : u_T} {fs : List Value} (X : jX p s m args c cc n own Ts G A) (hd : decode cc pc = .ok (.checkcast index, 3)) (q0 : Nat) (hb : ws[q0]? = some (b, .inr (ci, fs))) (hc : vwCl[ci]? = some (nm, T, N)) (hlink : Cond.classLink own index nm ∈ Ts) (k : J p l e R s m args below meth c Q G A n kc ks (pc + 3) L (.ref b :: st) ws) : J p l e R s m args below meth c Q G A n kc ks pc L (.ref b :: st) ws :=
  fun H locs ls hl hP hD hS => va_castS X.exec X.bytes X.self (X.hts _ hlink) (X.K.1 ci _ hc).2 (va_recv X.K hP hc hb) hd (k H locs ls hl hP hD hS)
theorem j_aald {a k9 j : Nat} {f : Nat → Option Nat} {i : Int32} {v : Value} (X : jX p s m args c cc n own Ts G A) (hd : decode cc pc = .ok (.aaload, 1)) (q0 : Nat) (ha : ws[q0]? = some (a, aS G k9 f)) (hi : i = nI j) (hj : j < k9) (hk : k9 < 2 ^ 31) (hv : va_rf (f j) = v) (k : J p l e R s m args below meth c Q G A n kc ks (pc + 1) L (v :: st) ws) : J p l e R s m args below meth c Q G A n kc ks pc L (.int i :: .ref a :: st) ws := by
  intro H locs ls hl hP hD hS
  subst hi; subst hv
  have hc : (nI j).toNatClampNeg = j := nI_clamp (by omega)
  refine va_aldq (C := "NanoSigns$Shape") X.exec X.bytes X.K hP q0 3 ha rfl (vp_in_nI hj hk) hd ?_
  rw [hc]
  exact k H locs ls hl hP hD hS
theorem j_aast {a k9 j b ci N : Nat} {f : Nat → Option Nat} {i : Int32} {C : String} {T : u_T} {fs : List Value} {ws' : va_W} (X : jX p s m args c cc n own Ts G A) (hd : decode cc pc = .ok (.aastore, 1)) (q0 : Nat) (ha : ws[q0]? = some (a, aS G k9 f)) (qk : Nat) (hv : ws[qk]? = some (b, .inr (ci, fs))) (hc : vwCl[ci]? = some (C, T, N)) (hca : va_Nw (.castable C "NanoSigns$Shape") s) (hi : i = nI j) (hj : j < k9) (hk : k9 < 2 ^ 31) (hw : ws.set q0 (a, aS G k9 (va_up f j (some b))) = ws') (k : J p l e R s m args below meth c Q G A n kc ks (pc + 1) L st ws') : J p l e R s m args below meth c Q G A n kc ks pc L (.ref b :: .int i :: .ref a :: st) ws := by
  intro H locs ls hl hP hD hS
  subst hi; subst hw
  have h9 : (nI j).toNatClampNeg = j := nI_clamp (by omega)
  refine va_astqO X.exec X.bytes X.K hP hD hS q0 3 qk ci (E := "NanoSigns$Shape") ha rfl hca hv hc (vp_in_nI hj hk) hd (fun H1 locs1 hP1 hD1 hS1 => ?_)
  rw [h9] at hP1 hD1
  exact k H1 locs1 ls hl hP1 hD1 hS1
theorem j_objI {idx a : Nat} (X : jX p s m args c cc n own Ts G A) (hd : decode cc pc = .ok (.invokespecial idx, 3)) (h1 : Cond.methodLink own idx objectInit ∈ Ts) (h2 : Cond.instanceMethod objectInit ∈ Ts) (h3 : Cond.code objectInit ⟨#[0xb1]⟩ 1 none ∈ Ts) (hf : 1 ≤ R.frames) (hlo : (st.map fun v => v.category).sum + 12 ≤ R.locals) (k : J p l e R s m args below meth c Q G A n kc ks (pc + 3) L st ws) : J p l e R s m args below meth c Q G A n kc ks pc L (.ref a :: st) ws :=
  fun H locs ls hl hP hD hS => W.objInit X.exec X.bytes X.self (X.hts _ h1) (X.hts _ h2) (X.hts _ h3) (g := F0 m pc ls (.ref a :: st)) rfl (hl.1.trans X.locals.symm) rfl hd hf (by have e9 : (F0 m pc ls (.ref a :: st)).monitorRoom = 0 := rfl; omega) (k H locs ls hl hP hD hS)
theorem j_new {index ci N : Nat} {C : String} {T : u_T} {fs : List Value} (X : jX p s m args c cc n own Ts G A) (hd : decode cc pc = .ok (.new index, 3)) (hin : ∀ w ∈ u_ws C T N, w ∈ Ts) (ty : Nat → FieldType) (hty : ∀ k, k < N → parseFieldDescriptor (T k).2.2.1 = some (ty k)) (hcl : Cond.classLink own index C ∈ Ts) (hinst : Cond.instantiable C N ∈ Ts) (hini : Cond.initialized C ∈ Ts) (hc : vwCl[ci]? = some (C, T, N)) (hfs : ∀ j, j < N → defaultValue (ty j) = vp_V fs j) (h1 : kc + 1 ≤ R.cells) (h2 : ks + N ≤ R.slots)
    (kk : ∀ q : Nat, J p l e R s m args below meth c Q G A n (kc + 1) (ks + N) (pc + 3) L (.ref q :: st) (ws ++ [(q, .inr (ci, fs))])) : J p l e R s m args below meth c Q G A n kc ks pc L st ws :=
  fun H locs ls hl hP hD hS => va_new (T := T) X.exec X.bytes X.hts hin ty hty X.self (X.hts _ hcl) (X.hts _ hinst) (X.hts _ hini) X.K hP hD hS X.new hc hfs h1 h2 hd (fun q H1 hP1 hD1 hS1 => kk q H1 locs ls hl hP1 hD1 hS1)
theorem j_newJ {k9 : Int32} {N' : Nat} (X : jX p s m args c cc n own Ts G A) (hd : decode cc pc = .ok (.newarray .long, 2)) (harr : Cond.arrayClass .long ∈ Ts) (hn : ¬ k9 < 0) (hN : k9.toNatClampNeg = N') (hb : N' ≤ 10000) (hc : kc + 1 ≤ R.cells) (hs : ks + N' ≤ R.slots)
    (kk : ∀ q : Nat, J p l e R s m args below meth c Q G A n (kc + 1) (ks + N') (pc + 2) L (.ref q :: st) (ws ++ [(q, aJ G N' (fun _ => 0))])) : J p l e R s m args below meth c Q G A n kc ks pc L (.int k9 :: st) ws := by
  intro H locs ls hl hP hD hS
  refine va_newa (atype := .long) (ty := .long) (a0 := (N', .inr (.inl (fun _ => 0)))) X.exec X.bytes (X.hts _ harr) rfl X.K hP hD hS X.new (fun cA => by rw [vp_cell_l]; rfl) hn hN (by rw [show componentBytes .long = 8 from rfl]; omega) hc hs hd (fun q cA H1 hK1 hP1 hD1 hS1 => ?_)
  have h1 : s.vm.findClass ("[" ++ (FieldType.long).toString) = some cA := (hK1.2 4 _ rfl).2
  have h2 : s.vm.findClass ("[" ++ (FieldType.long).toString) = some G.2.2.1 := (hK1.2 1 _ rfl).2
  have e := Option.some.inj (h1.symm.trans h2)
  subst e
  exact kk q H1 locs ls hl hP1 hD1 hS1
theorem j_newI {k9 : Int32} {N' : Nat} (X : jX p s m args c cc n own Ts G A) (hd : decode cc pc = .ok (.newarray .int, 2)) (harr : Cond.arrayClass .int ∈ Ts) (hn : ¬ k9 < 0) (hN : k9.toNatClampNeg = N') (hb : N' ≤ 10000) (hc : kc + 1 ≤ R.cells) (hs : ks + N' ≤ R.slots)
    (kk : ∀ q : Nat, J p l e R s m args below meth c Q G A n (kc + 1) (ks + N') (pc + 2) L (.ref q :: st) (ws ++ [(q, aI G N' (fun _ => 0))])) : J p l e R s m args below meth c Q G A n kc ks pc L (.int k9 :: st) ws := by
  intro H locs ls hl hP hD hS
  refine va_newa (atype := .int) (ty := .int) (a0 := (N', .inl (fun _ => 0))) X.exec X.bytes (X.hts _ harr) rfl X.K hP hD hS X.new (fun cA => by rw [vp_cell_i]; rfl) hn hN (by rw [show componentBytes .int = 4 from rfl]; omega) hc hs hd (fun q cA H1 hK1 hP1 hD1 hS1 => ?_)
  have h1 : s.vm.findClass ("[" ++ (FieldType.int).toString) = some cA := (hK1.2 4 _ rfl).2
  have h2 : s.vm.findClass ("[" ++ (FieldType.int).toString) = some G.2.1 := (hK1.2 0 _ rfl).2
  have e := Option.some.inj (h1.symm.trans h2)
  subst e
  exact kk q H1 locs ls hl hP1 hD1 hS1
theorem j_newZ {k9 : Int32} {N' : Nat} (X : jX p s m args c cc n own Ts G A) (hd : decode cc pc = .ok (.newarray .boolean, 2)) (harr : Cond.arrayClass .boolean ∈ Ts) (hn : ¬ k9 < 0) (hN : k9.toNatClampNeg = N') (hb : N' ≤ 10000) (hc : kc + 1 ≤ R.cells) (hs : ks + N' ≤ R.slots)
    (kk : ∀ q : Nat, J p l e R s m args below meth c Q G A n (kc + 1) (ks + N') (pc + 2) L (.ref q :: st) (ws ++ [(q, aZ G N' (fun _ => 0))])) : J p l e R s m args below meth c Q G A n kc ks pc L (.int k9 :: st) ws := by
  intro H locs ls hl hP hD hS
  refine va_newa (atype := .boolean) (ty := .boolean) (a0 := (N', .inl (fun _ => 0))) X.exec X.bytes (X.hts _ harr) rfl X.K hP hD hS X.new (fun cA => by rw [vp_cell_i]; rfl) hn hN (by rw [show componentBytes .boolean = 1 from rfl]; omega) hc hs hd (fun q cA H1 hK1 hP1 hD1 hS1 => ?_)
  have h1 : s.vm.findClass ("[" ++ (FieldType.boolean).toString) = some cA := (hK1.2 4 _ rfl).2
  have h2 : s.vm.findClass ("[" ++ (FieldType.boolean).toString) = some G.2.2.2.1 := (hK1.2 2 _ rfl).2
  have e := Option.some.inj (h1.symm.trans h2)
  subst e
  exact kk q H1 locs ls hl hP1 hD1 hS1
theorem j_newS {k9 : Int32} {N' index : Nat} (X : jX p s m args c cc n own Ts G A) (hF : exF A s s.heap) (hd : decode cc pc = .ok (.anewarray index, 3)) (hlink : Cond.classLink own index "NanoSigns$Shape" ∈ Ts) (hn : ¬ k9 < 0) (hN : k9.toNatClampNeg = N') (hb : N' ≤ 10000) (hc : kc + 1 ≤ R.cells) (hs : ks + N' ≤ R.slots)
    (kk : ∀ q : Nat, J p l e R s m args below meth c Q G A n (kc + 1) (ks + N') (pc + 3) L (.ref q :: st) (ws ++ [(q, aS G N' (fun _ => none))])) : J p l e R s m args below meth c Q G A n kc ks pc L (.int k9 :: st) ws := by
  intro H locs ls hl hP hD hS
  refine va_newq X.exec X.bytes X.self (X.hts _ hlink) hF.2.2.2.2.2.1 X.K hP hD hS X.new hn hN (by omega) hc hs hd (fun q cA H1 hK1 hP1 hD1 hS1 => ?_)
  obtain ⟨_, _, _, _, _, h1⟩ := (hK1.2 4 _ rfl).2
  obtain ⟨_, _, _, _, _, h2⟩ := (hK1.2 3 _ rfl).2
  have e := Option.some.inj (h1.symm.trans h2)
  subst e
  exact kk q H1 locs ls hl hP1 hD1 hS1
/-- a nest mate's constructor -/
theorem j_callIN {y : MethodName} {host : String} {bytes : ByteArray} {maxL index b : Nat} {wc ws' : List Cond} {rm : Room} {w : va_W} {S : Type} {post : Option Value → S → Prop} {Bo Bn : S → va_W} (X : jX p s m args c cc n own Ts G A) (hF : exF A s s.heap) (hd : decode cc pc = .ok (.invokespecial index, 3)) (hM : Cf l y wc rm G [.ref b] w post Bo Bn)
    (hG : GoodIn Ts wc) (hw : wc = Cond.code y bytes maxL none :: ws') (hl : (own, index, y, host) ∈ exL) (hini : Cond.initialized y.cls ∈ Ts) (hin : Cond.instanceMethod y ∈ Ts) (hy1 : y.name = "<init>") (hy : y.cls ≠ "java/lang/invoke/MethodHandle" ∧ y.cls ≠ "java/lang/invoke/VarHandle" ∧ (parseMethodDescriptor y.desc).map (fun d => d.parameters.length) = some 0) (hR : rm.frames + 1 ≤ R.frames ∧ 8 + (maxL + 11) + rm.locals ≤ R.locals)
    (is : List Nat) (hC : is.map (fun i => ws[i]?) = w.map some) (hn : va_nd is = true) (hst : st = .ref b :: rest) (hW : (rest.map fun v => v.category).sum ≤ 8) (hf : kc + rm.cells ≤ R.cells ∧ ks + rm.slots ≤ R.slots)
    (kk : ∀ (v : Option Value) (u : S), post v u → J p l e R s m args below meth c Q G A n (kc + rm.cells) (ks + rm.slots) (pc + 3) L (v.toList ++ rest) (pw_put ws is (Bo u) ++ Bn u)) : J p l e R s m args below meth c Q G A n kc ks pc L st ws := by
  refine j_runF (a := [Value.ref b].toArray) X is hC hn hM.1 (fun H locs ls hl9 hP hD hS hA => ?_) kk
  exact va_runIN (As := []) X.1 (hM.2 H.size) ⟨va_cnB 0 X.hts hG hw rfl rfl (hF.2.2.2.1 _ hl) (X.hts _ hini) hy hR, hy1, X.hts _ hin⟩ ⟨cPX_blind, fun U hU hW => ⟨rfl, ⟨by rw [hU], by rw [hU]; exact hP, va_K.moved hW.alike X.K, hD⟩, by rw [hU]; exact hF.to hW hS.2.1 hA⟩⟩ rfl rfl hl9.1 hst (lv_room hW) hd hf
theorem j_callI {y : MethodName} {bytes : ByteArray} {maxL nA index b : Nat} {wc ws' : List Cond} {rm : Room} {As : List Value} {w : va_W} {S : Type} {post : Option Value → S → Prop} {Bo Bn : S → va_W} (X : jX p s m args c cc n own Ts G A) (hF : exF A s s.heap) (hd : decode cc pc = .ok (.invokespecial index, 3)) (hM : Cf l y wc rm G (.ref b :: As) w post Bo Bn)
    (hG : GoodIn Ts wc) (hw : wc = Cond.code y bytes maxL none :: ws') (hini : Cond.initialized y.cls ∈ Ts) (hlk : Cond.methodLink own index y ∈ Ts) (hin : Cond.instanceMethod y ∈ Ts) (hy1 : y.name = "<init>") (hy : y.cls ≠ "java/lang/invoke/MethodHandle" ∧ y.cls ≠ "java/lang/invoke/VarHandle" ∧ (parseMethodDescriptor y.desc).map (fun d => d.parameters.length) = some nA) (hR : rm.frames + 1 ≤ R.frames ∧ 8 + (maxL + 11) + rm.locals ≤ R.locals)
    (is : List Nat) (hC : is.map (fun i => ws[i]?) = w.map some) (hn : va_nd is = true) (hlen : As.length = nA) (hst : st = As.reverse ++ .ref b :: rest) (hW : (rest.map fun v => v.category).sum ≤ 8) (hf : kc + rm.cells ≤ R.cells ∧ ks + rm.slots ≤ R.slots)
    (kk : ∀ (v : Option Value) (u : S), post v u → J p l e R s m args below meth c Q G A n (kc + rm.cells) (ks + rm.slots) (pc + 3) L (v.toList ++ rest) (pw_put ws is (Bo u) ++ Bn u)) : J p l e R s m args below meth c Q G A n kc ks pc L st ws := by
  refine j_runF (a := (Value.ref b :: As).toArray) X is hC hn hM.1 (fun H locs ls hl9 hP hD hS hA => ?_) kk
  exact va_runI (As := As) X.1 (hM.2 H.size) (cwI nA X.hts hG hw rfl rfl (X.hts _ hini) (X.hts _ hlk) (X.hts _ hin) hy1 hy hR) ⟨cPX_blind, fun U hU hW => ⟨rfl, ⟨by rw [hU], by rw [hU]; exact hP, va_K.moved hW.alike X.K, hD⟩, by rw [hU]; exact hF.to hW hS.2.1 hA⟩⟩ rfl hlen hl9.1 hst (lv_room hW) hd hf
/-- a call of an abstract method: the receiver's own -/
theorem j_callU {x y : MethodName} {bytes : ByteArray} {maxL nA index ci b N : Nat} {ret : Option FieldType} {wc ws' : List Cond} {rm : Room} {C owner : String} {T : u_T} {fs : List Value} {As : List Value} {w : va_W} {S : Type} {post : Option Value → S → Prop} {Bo Bn : S → va_W} (X : jX p s m args c cc n own Ts G A) (hd : decode cc pc = .ok (.invokevirtual index, 3)) (hM : Ct l y wc rm G (.ref b :: As) w post Bo Bn)
    (hT : GoodIn Ts (va_wsU own index C owner x y wc)) (hw : wc = Cond.code y bytes maxL ret :: ws') (hz : va_Nw (.declares ⟨owner, x.name, x.desc⟩) s) (hy : owner ≠ "java/lang/invoke/MethodHandle" ∧ owner ≠ "java/lang/invoke/VarHandle" ∧ (parseMethodDescriptor x.desc).map (fun d => d.parameters.length) = some nA) (hR : rm.frames + 1 ≤ R.frames ∧ 8 + (maxL + 11) + rm.locals ≤ R.locals)
    (q0 : Nat) (hb : w[q0]? = some (b, .inr (ci, fs))) (hc : vwCl[ci]? = some (C, T, N)) (is : List Nat) (hC : is.map (fun i => ws[i]?) = w.map some) (hn : va_nd is = true)
    (hlen : As.length = nA) (hst : st = As.reverse ++ .ref b :: rest) (hW : (rest.map fun v => v.category).sum ≤ 8) (hf : kc + rm.cells ≤ R.cells ∧ ks + rm.slots ≤ R.slots)
    (kk : ∀ (v : Option Value) (u : S), post v u → J p l e R s m args below meth c Q G A n (kc + rm.cells) (ks + rm.slots) (pc + 3) L (v.toList ++ rest) (pw_put ws is (Bo u) ++ Bn u)) : J p l e R s m args below meth c Q G A n kc ks pc L st ws := by
  refine j_run (a := (Value.ref b :: As).toArray) X is hC hn hM.1 (fun H locs ls hl hP hD => ?_) kk
  exact va_runU X.1 (hM.2 H.size) (va_cwA nA X.hts hT hw rfl rfl hz hy hR) ⟨cP_blind, va_recv X.K hP (ci := ci) hc hb, fun U hU hW => ⟨rfl, by rw [hU], by rw [hU]; exact hP, va_K.moved hW.alike X.K, hD⟩⟩ rfl hlen hl.1 hst (lv_room hW) hd hf
end JN
theorem dg_00 (j : Nat) : dg 0 j = 0 := (dg_eq (by rw [Int.zero_ediv]; rfl)).symm
