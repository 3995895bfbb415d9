/-! what the entry gives: the classes, the arrays, the facts for throwing -/
theorem w_arr {args : Array Value} {s : State} {ty : FieldType} (h : (Cond.arrayClass ty).before args s = true) : ∃ cA : ClassId, ArrOfT s cA ty ∧ s.vm.findClass ("[" ++ ty.toString) = some cA := by
  obtain ⟨cA, kA, comp, h1, h2, h3⟩ := Cond.arrayClass_spec h
  exact ⟨cA, fun n z => ⟨fun k h => (by cases h), kA, h2, comp, h3⟩, h1⟩
theorem w_arrS {s : State} (h : va_AO "NanoSigns$Shape" s) : ∃ cA : ClassId, ArrOfT s cA (.object "NanoSigns$Shape") ∧ va_RA s cA (.object "NanoSigns$Shape") := by
  obtain ⟨comp, c, k, h1, -, h3, h4, h5⟩ := Cond.arrayOver_spec h
  exact ⟨c, fun n z => ⟨fun k h => (by cases h), k, h3, comp, h4⟩, k, comp, h3, h4, h1, h5⟩
theorem is_X0 : Cond.instantiable RX0 5 ∈ lw_tbl := by decide +kernel
theorem is_X1 : Cond.instantiable RX1 14 ∈ lw_tbl := by decide +kernel
theorem is_X2 : Cond.instantiable RX2 10 ∈ lw_tbl := by decide +kernel
theorem is_X3 : Cond.instantiable RX3 2 ∈ lw_tbl := by decide +kernel
theorem is_X4 : Cond.instantiable RX4 6 ∈ lw_tbl := by decide +kernel
theorem is_X5 : Cond.instantiable RX5 5 ∈ lw_tbl := by decide +kernel
theorem is_X6 : Cond.instantiable RX6 4 ∈ lw_tbl := by decide +kernel
theorem is_X7 : Cond.instantiable RX7 6 ∈ lw_tbl := by decide +kernel
theorem is_X9 : Cond.instantiable RX9 1 ∈ lw_tbl := by decide +kernel
theorem is_X10 : Cond.instantiable RX10 8 ∈ lw_tbl := by decide +kernel
theorem is_X11 : Cond.instantiable RX11 19 ∈ lw_tbl := by decide +kernel
theorem ia_L : (Cond.arrayClass .int ∈ lw_tbl ∧ Cond.arrayClass .long ∈ lw_tbl ∧ Cond.arrayClass .boolean ∈ lw_tbl) ∧ Cond.arrayOver (.object "NanoSigns$Shape") ∈ lw_tbl := by decide +kernel
theorem w_G {args : Array Value} {s : State} (hts : ∀ w ∈ lw_tbl, w.before args s = true) : ∃ G : jG, va_K G.1 vwCl (jT G) s := by
  have hk : ∀ c : Nat, ∃ (cC : ClassId) (iS : Nat → Nat), ∀ q : vw_C, vwCl[c]? = some q → u_Kn s q.1 q.2.1 q.2.2 cC iS := by
    intro c
    match c with
    | 0 => obtain ⟨cC, iS, h⟩ := u_known hts inX0 (hts _ is_X0); exact ⟨cC, iS, fun q hq => by cases hq; exact h⟩
    | 1 => obtain ⟨cC, iS, h⟩ := u_known hts inX1 (hts _ is_X1); exact ⟨cC, iS, fun q hq => by cases hq; exact h⟩
    | 2 => obtain ⟨cC, iS, h⟩ := u_known hts inX2 (hts _ is_X2); exact ⟨cC, iS, fun q hq => by cases hq; exact h⟩
    | 3 => obtain ⟨cC, iS, h⟩ := u_known hts inX3 (hts _ is_X3); exact ⟨cC, iS, fun q hq => by cases hq; exact h⟩
    | 4 => obtain ⟨cC, iS, h⟩ := u_known hts inX4 (hts _ is_X4); exact ⟨cC, iS, fun q hq => by cases hq; exact h⟩
    | 5 => obtain ⟨cC, iS, h⟩ := u_known hts inX5 (hts _ is_X5); exact ⟨cC, iS, fun q hq => by cases hq; exact h⟩
    | 6 => obtain ⟨cC, iS, h⟩ := u_known hts inX6 (hts _ is_X6); exact ⟨cC, iS, fun q hq => by cases hq; exact h⟩
    | 7 => obtain ⟨cC, iS, h⟩ := u_known hts inX7 (hts _ is_X7); exact ⟨cC, iS, fun q hq => by cases hq; exact h⟩
    | 8 => obtain ⟨cC, iS, h⟩ := u_known hts inX9 (hts _ is_X9); exact ⟨cC, iS, fun q hq => by cases hq; exact h⟩
    | 9 => obtain ⟨cC, iS, h⟩ := u_known hts inX10 (hts _ is_X10); exact ⟨cC, iS, fun q hq => by cases hq; exact h⟩
    | 10 => obtain ⟨cC, iS, h⟩ := u_known hts inX11 (hts _ is_X11); exact ⟨cC, iS, fun q hq => by cases hq; exact h⟩
    | n + 11 => exact ⟨0, fun _ => 0, fun q hq => by have h : (none : Option vw_C) = some q := hq; cases h⟩
  obtain ⟨cI, aI1, rI⟩ := w_arr (hts _ ia_L.1.1)
  obtain ⟨cJ, aJ1, rJ⟩ := w_arr (hts _ ia_L.1.2.1)
  obtain ⟨cZ, aZ1, rZ⟩ := w_arr (hts _ ia_L.1.2.2)
  obtain ⟨cS, aS1, rS⟩ := w_arrS (va_AO.of (hts _ ia_L.2))
  refine ⟨((fun c => (hk c).choose, fun c => (hk c).choose_spec.choose), cI, cJ, cZ, cS), fun c q hq => (hk c).choose_spec.choose_spec q hq, fun k q hq => ?_⟩
  match k, hq with
  | 0, hq => cases hq; exact ⟨aI1, rI⟩
  | 1, hq => cases hq; exact ⟨aJ1, rJ⟩
  | 2, hq => cases hq; exact ⟨aZ1, rZ⟩
  | 3, hq => cases hq; exact ⟨aS1, rS⟩
  | n + 4, hq => have h : (none : Option (ClassId × FieldType)) = some q := hq; cases h
theorem ex_C : ∀ x ∈ exC, Cond.castable x.1 x.2 ∈ lw_tbl := by decide +kernel
theorem ex_L : ∀ x ∈ exL, Cond.methodLinkNest x.1 x.2.1 x.2.2.1 x.2.2.2 ∈ lw_tbl := by decide +kernel
theorem ex_D : ∀ x ∈ exD, Cond.declares x ∈ lw_tbl := by decide +kernel
theorem ex_S : ∀ x ∈ exS, Cond.stringRef RX10 x.1 x.2 ∈ lw_tbl := by decide +kernel
theorem ex_N : ∀ x ∈ exN, Cond.not (.castable x.1 x.2) ∈ flatC (Jvm.Cond.and given_1 narrow_1) := by decide +kernel
theorem ex_Z : (Cond.laysStatic Bundle.tN "UNASSIGNED_STACK" Bundle.steD ∈ lw_tbl ∧ Cond.laysStatic Bundle.tN "SUPPRESSED_SENTINEL" Bundle.listD ∈ lw_tbl) ∧ Cond.initialized Bundle.tN ∈ lw_tbl := by decide +kernel
theorem ex_R : Cond.isRef (.static Bundle.tN "UNASSIGNED_STACK" Bundle.steD) ∈ flatC (Jvm.Cond.and given_1 narrow_1) ∧ Cond.isRef (.static Bundle.tN "SUPPRESSED_SENTINEL" Bundle.listD) ∈ flatC (Jvm.Cond.and given_1 narrow_1) := by decide +kernel
theorem w_F {args : Array Value} {s : State} (hts : ∀ w ∈ lw_tbl, w.before args s = true) (hgv : (Jvm.Cond.and given_1 narrow_1).before args s = true) {cur : ClassId} (hcur : s.vm.findClass RX10 = some cur) : exF (fun q => s.heap.size ≤ q) s s.heap := by
  have hs := flat_of_before _ hgv
  have hA : ∀ a : Nat, a < s.heap.size → ¬ s.heap.size ≤ a := fun a h => Nat.not_le.mpr h
  refine ⟨⟨vx_Zqof (hts _ ex_Z.1.1) (hts _ ex_Z.2) (hs _ ex_R.1) hA, vx_Zqof (hts _ ex_Z.1.2) (hts _ ex_Z.2) (hs _ ex_R.2) hA⟩, fun x hx => ?_, fun x hx => va_Nw.of rfl (hts _ (ex_C x hx)), fun x hx => va_Nw.of rfl (hts _ (ex_L x hx)), fun x hx => va_Nc.of (hs _ (ex_N x hx)), va_AO.of (hts _ ia_L.2), fun x hx => va_Nw.of rfl (hts _ (ex_D x hx))⟩
  obtain ⟨k, cf, i, a, -, -, -, -, -, hev⟩ := Cond.stringRef_spec hcur (hts _ (ex_S x hx))
  exact ⟨a, vk_R.of (hts _ (ex_S x hx)) hev⟩
