/-! floorDiv; rows of shapes; small words of NanoSigns -/
theorem fd_x (a b : Int64) : (a ^^^ b).toInt < 0 ↔ ¬ (a.toInt < 0 ↔ b.toInt < 0) := by
  have h : (a ^^^ b).toBitVec.msb = (a.toBitVec.msb ^^ b.toBitVec.msb) := by rw [Int64.toBitVec_xor, BitVec.msb_xor]
  have e : ∀ x : Int64, x.toBitVec.msb = decide (x.toInt < 0) := fun x => BitVec.msb_eq_toInt
  rw [e, e, e] at h
  by_cases h1 : a.toInt < 0 <;> by_cases h2 : b.toInt < 0 <;> simp [h1, h2] at h ⊢ <;> omega
theorem fd_main {a b q : Int64} (hb0 : ¬ b.toInt = 0) (hb1 : ¬ b.toInt = -1) (hq : q = a / b) : ∃ r : Int, a.toInt = q.toInt * b.toInt + r ∧ r.natAbs < b.toInt.natAbs ∧ (0 ≤ a.toInt → 0 ≤ r) ∧ (a.toInt ≤ 0 → r ≤ 0) ∧ r.natAbs ≤ a.toInt.natAbs ∧ (¬ r = 0 → -4611686018427387904 ≤ q.toInt ∧ q.toInt ≤ 4611686018427387904) := by
  obtain ⟨h1, h2, h3⟩ := ov_d hb0 hb1 hq rfl
  have hb := l_rng b
  have ha := l_rng a
  have e2 : (a.toInt.tmod b.toInt).natAbs = a.toInt.natAbs % b.toInt.natAbs := Int.natAbs_tmod _ _
  have hlt : a.toInt.natAbs % b.toInt.natAbs < b.toInt.natAbs := Nat.mod_lt _ (by omega)
  have e3 := Int.mul_tdiv_add_tmod a.toInt b.toInt
  have e1 : (a.toInt.tdiv b.toInt).natAbs = a.toInt.natAbs / b.toInt.natAbs := Int.natAbs_tdiv _ _
  have hqT : q.toInt = a.toInt.tdiv b.toInt := by
    rw [hq, Int64.toInt_div]
    have hb2 : b.toInt = 1 ∨ 2 ≤ b.toInt.natAbs := by omega
    rcases hb2 with h | h
    · rw [h, Int.tdiv_one]; exact n_bm (by omega) (by omega)
    · have := Nat.div_le_div_left (a := a.toInt.natAbs) h (by decide)
      exact n_bm (by omega) (by omega)
  have hr : (a - a / b * b).toInt = a.toInt.tmod b.toInt := by
    have : a.toInt.tdiv b.toInt * b.toInt = b.toInt * a.toInt.tdiv b.toInt := Int.mul_comm _ _
    rw [hqT] at h1
    omega
  rw [hr] at h1 h2 h3
  refine ⟨a.toInt.tmod b.toInt, h1, h2, fun h => Int.tmod_nonneg _ h, fun h => ?_, ?_, h3⟩
  · have := Int.tmod_nonneg b.toInt (show 0 ≤ -a.toInt by omega)
    rw [Int.neg_tmod] at this
    omega
  · rw [e2]; exact Nat.mod_le _ _
theorem fd_mul {a b q : Int64} {r : Int} (h1 : a.toInt = q.toInt * b.toInt + r) (h2 : 0 ≤ a.toInt → 0 ≤ r) (h3 : a.toInt ≤ 0 → r ≤ 0) (h4 : r.natAbs ≤ a.toInt.natAbs) : (q * b).toInt = q.toInt * b.toInt := by
  have ha := l_rng a
  rw [l_mul] <;> omega
theorem fd_rest {a b q r : Int64} {z : Int} (h : a.toInt = q.toInt * b.toInt + z) (hz : -9223372036854775808 ≤ z ∧ z < 9223372036854775808) (e : r = a - q * b) : r.toInt = z := by
  rw [e, Int64.toInt_sub, Int64.toInt_mul, Int.sub_bmod_bmod, show a.toInt - q.toInt * b.toInt = z by omega]
  exact n_bm (by omega) (by omega)
theorem ov_rng {a b q r : Int} (hb : -9223372036854775808 ≤ b ∧ b < 9223372036854775808) (h0 : ¬ b = 0) (h : ovR a b q r) : -9223372036854775808 ≤ r ∧ r < 9223372036854775808 := by
  rcases Int.lt_or_gt_of_ne h0 with c | c
  · have := h.2.2 c; omega
  · have := h.2.1 c; omega
/-- what stands at a shape's number -/
def shO (f : Nat → Option Nat) (N : Nat) (x : Int32) : Option Nat := if 0 ≤ x.toInt ∧ x.toInt < N then f x.toInt.toNat else none
theorem shO_n {f : Nat → Option Nat} {N : Nat} {x : Int32} (h : ¬ (0 ≤ x.toInt ∧ x.toInt < N)) : shO f N x = none := if_neg h
theorem shO_y {f : Nat → Option Nat} {N : Nat} {x : Int32} (h : 0 ≤ x.toInt ∧ x.toInt < N) : shO f N x = f x.toInt.toNat := if_pos h
theorem shO_s {f : Nat → Option Nat} {N : Nat} {x : Int32} {q : Nat} (h : shO f N x = some q) : 0 ≤ x.toInt ∧ x.toInt < N := by
  unfold shO at h
  by_cases c : 0 ≤ x.toInt ∧ x.toInt < N
  · exact c
  · rw [if_neg c] at h; cases h
theorem cmp_b {a b c d : Int64} : -340282366920938463463374607431768211455 ≤ a.toInt - d.toInt ∧ a.toInt - d.toInt ≤ 340282366920938463463374607431768211455 := by
  have := l_rng a; have := l_rng d; omega
theorem cmp_q {b c : Int64} (hc : 0 ≤ c.toInt) : 0 ≤ b.toInt * b.toInt * c.toInt ∧ b.toInt * b.toInt * c.toInt < 115792089237316195423570985008687907853269984665640564039457584007913129639936 := by
  have hb := l_rng b
  have hc2 := l_rng c
  have h1 := sq_nn b.toInt
  have h2 : b.toInt * b.toInt ≤ 9223372036854775808 * 9223372036854775808 := by
    rcases Int.le_total 0 b.toInt with h | h
    · exact sq_mono h (by omega)
    · have := sq_mono (p := -b.toInt) (q := 9223372036854775808) (by omega) (by omega)
      rw [Int.neg_mul_neg] at this; exact this
  refine ⟨Int.mul_nonneg h1 hc, ?_⟩
  have := Int.mul_le_mul h2 (show c.toInt ≤ 9223372036854775808 by omega) hc (by decide)
  omega
theorem ov_q {a b q z : Int} (h : ovR a b q z) (ha : -9223372036854775808 ≤ a ∧ a < 9223372036854775808) (h0 : ¬ b = 0) (hz : ¬ z = 0) : q < 9223372036854775807 := by
  rcases Int.lt_or_le q 9223372036854775807 with c | c
  · exact c
  · exfalso
    rcases Int.lt_or_gt_of_ne h0 with d | d
    · have h2 := h.2.2 d
      have h3 : q * b ≤ 9223372036854775807 * b := Int.mul_le_mul_of_nonpos_right c (Int.le_of_lt d)
      have := h.1
      omega
    · have h2 := h.2.1 d
      have h3 : 9223372036854775807 * b ≤ q * b := Int.mul_le_mul_of_nonneg_right c (Int.le_of_lt d)
      have := h.1
      omega
/-- a method of a class some of whose methods the machine runs itself, but not this one -/
theorem metF {l : Launch} {y : MethodName} {ws ws' : List Cond} {rm : Room} {Pc : Array Value → State → Prop} {Qc : Array Value → State → Outcome → State → Prop} {mc ms : Nat} {free : Addr → Prop} {cc : ByteArray} {maxL : Nat} {ret : Option FieldType}
    (hy : plainFor y = true) (hw : ws = Cond.code y cc maxL ret :: ws')
    (body : ∀ p e s m args below meth c s₁, BodyLoose p l y (headSpec ws rm) cc maxL ret e s m args below meth c s₁ → c.maxLocals = maxL → Pc args s →
      W p l e (headSpec ws rm).room s m args below meth c s.heap [] 0 0 (MQ below Qc args s mc ms free) (entryFrame m args maxL)) : Met l y ws rm Pc Qc mc ms free := by
  refine MetFree.of_bodySF (code := cc) (maxLocals := maxL) (ret := ret) hy ?_ ?_
  · intro args s m h hn
    obtain ⟨meth, c, h1, h2, h3, h4, h5, h6, -, -⟩ := Cond.code_spec hn (atoms_spec (ws := ws) h _ (by rw [hw]; exact List.mem_cons_self))
    exact ⟨meth, c, h1, h2, h3, h4, h5, h6⟩
  · intro p e s m args below meth c s₁ B hml hP _
    have hh0 : s₁.heap = s.heap := by rw [B.state]; rfl
    obtain ⟨t, a1, o, b1, b2, b3⟩ := body p e s m args below meth c s₁ B hml hP s₁ hh0 (Stand.of_body B)
    exact ⟨t, o, a1, b1, b2, ⟨b3.1, b3.2⟩⟩
theorem c_introF {l : Launch} {y : MethodName} {wc ws' : List Cond} {rm : Room} {G : jG} {av : List Value} {w : va_W} {S : Type} {post : Option Value → S → Prop} {Bo Bn : S → va_W} {cc : ByteArray} {maxL : Nat} {ret : Option FieldType}
    (hy : plainFor y = true) (hw : wc = Cond.code y cc maxL ret :: ws') (hlen : (lg_sl av).length ≤ maxL) (ha : ∀ u, (Bo u).map Prod.fst = w.map Prod.fst)
    (body : ∀ (p : Program) (e : Env) (s : State) (m : MethodId) (args : Array Value) (below : List Frame) (meth : Method) (c : Code) (Q : State → Prop) (A : Nat → Prop), jX p s m args c cc maxL y.cls wc G A → meth.sig.returnType = ret → meth.name = y.name → jE p l e rm s m args below meth c Q cc G A maxL post Bo Bn → J p l e rm s m args below meth c Q G A maxL 0 0 0 (lv_args 0 av) [] w) : Ct l y wc rm G av w post Bo Bn := by
  refine ⟨ha, fun sz => metF (cc := cc) (maxL := maxL) (ret := ret) hy hw ?_⟩
  intro p e s m args below meth c s₁ B hml hv
  obtain ⟨rfl, hsz, hP, hK, hD0⟩ := hv
  have hx := B.exec
  have hb := B.bytes
  have hr := B.returns
  have hts := atoms_spec (ws := wc) B.pre
  have hown : s.vm.findClass y.cls = some m.cls := findClass_of_methodNamed B.named
  have hlocks := B.notSynchronized
  have hnm : meth.name = y.name := (name_of_methodNamed B.named B.method).1
  subst hsz
  have hD := hD0.self (sz := s.heap.size)
  have hX : jX p s m av.toArray c cc maxL y.cls wc G (va_A w s.heap.size) := ⟨⟨hx, hb, hml, hown, hts⟩, hK, fun q h => Or.inr h⟩
  have hl := lv_entry av (n := maxL) hlen
  rw [lg_entry_eq]
  refine body p e s m av.toArray below meth c _ (va_A w s.heap.size) hX hr hnm ⟨?_, ?_, ?_⟩ s.heap [] _ hl hP hD va_S.rf
  · intro pc L u hd hp hr0 H locs ls hl hP9 hD9 hS
    exact W.vret hx hb hr0 (fun t ht hW => ⟨⟨none, u, rfl, hp, by rw [ht]; exact hP9, va_K.moved hW.alike hK, hD9⟩, hS.F ht⟩) hS.2.2 hd
  · intro pc L v u ty hd hp hr0 hn0 H locs ls hl hP9 hD9 hS
    exact W.zret (v := v) hx hb hr0 hn0 (fun t ht hW => ⟨⟨some (.int v), u, rfl, hp, by rw [ht]; exact hP9, va_K.moved hW.alike hK, hD9⟩, hS.F ht⟩) hS.2.2 hd
  · intro pc L v u hd hp hr0 H locs ls hl hP9 hD9 hS
    exact W.lret (v := v) hx hb hr0 (fun t ht hW => ⟨⟨some (.long v), u, rfl, hp, by rw [ht]; exact hP9, va_K.moved hW.alike hK, hD9⟩, hS.F ht⟩) hS.2.2 hd
