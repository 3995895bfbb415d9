/-! a crossing's state, and that two segments give one answer -/
abbrev XS : Type := (Nat → Nat → Int64) × (Nat → Int32) × (Nat → Int64) × Int32 × Int64 × Int64 × Int × Int
abbrev xP (v : XV) (u : XS) : Prop := u.2.2.2.1 = nI v.1.length ∧ (¬ v.1 = [] → u.2.2.2.2.2.2.1 = v.2.2.2.2.1 ∧ crU v u.2.2.2.2.1.toInt u.2.2.2.2.2.1.toInt u.1 u.2.1) ∧ (-57896044618658097711785492504343953926634992332820282019728792003956564819968 ≤ u.2.2.2.2.2.2.2 ∧ u.2.2.2.2.2.2.2 < 57896044618658097711785492504343953926634992332820282019728792003956564819968)
abbrev xQ (u : XS) : Prop := u.2.2.2.1 = 0 ∧ (-57896044618658097711785492504343953926634992332820282019728792003956564819968 ≤ u.2.2.2.2.2.2.2 ∧ u.2.2.2.2.2.2.2 < 57896044618658097711785492504343953926634992332820282019728792003956564819968)
theorem xal_u {H : Nat → Prop} {X Y : Nat → Int} {o o' : Option XV} (h : xal H X Y o) (h' : xal H X Y o') : o = o' := by
  rcases h with ⟨rfl, i, j, hi, hj, Hi, Hj, hn⟩ | ⟨rfl, h0⟩ | ⟨j, hj, Hj, rfl, hall⟩ <;> rcases h' with ⟨rfl, i', j', hi', hj', Hi', Hj', hn'⟩ | ⟨rfl, h0'⟩ | ⟨j', hj', Hj', rfl, hall'⟩
  · rfl
  · exact absurd Hi (h0' i hi)
  · exact absurd ⟨(hall' i hi Hi).1.trans (hall' j hj Hj).1.symm, (hall' i hi Hi).2.trans (hall' j hj Hj).2.symm⟩ hn
  · exact absurd Hi' (h0 i' hi')
  · rfl
  · exact absurd Hj' (h0 j' hj')
  · exact absurd ⟨(hall i' hi' Hi').1.trans (hall j' hj' Hj').1.symm, (hall i' hi' Hi').2.trans (hall j' hj' Hj').2.symm⟩ hn'
  · exact absurd Hj (h0' j hj)
  · have := hall j' hj' Hj'
    rw [this.1, this.2]
theorem xss_u {ax ay bx by1 cx cy dx dy : Int} {o o' : Option XV} (h : xss ax ay bx by1 cx cy dx dy o) (h' : xss ax ay bx by1 cx cy dx dy o') : o = o' := by
  unfold xss at h h'
  by_cases c : ssL ax ay bx by1 cx cy dx dy = 0
  · rw [if_pos c] at h h'
    by_cases c2 : ¬ tn ax ay bx by1 cx cy = 0
    · rw [if_pos c2] at h h'; rw [h, h']
    · rw [if_neg c2] at h h'; exact xal_u h h'
  · rw [if_neg c] at h h'
    by_cases c2 : ¬ mt ax ay bx by1 cx cy dx dy
    · rw [if_pos c2] at h h'; rw [h, h']
    · rw [if_neg c2] at h h'
      by_cases c3 : ssL ax ay bx by1 cx cy dx dy < 0
      · rw [if_pos c3] at h h'; rw [h, h']
      · rw [if_neg c3] at h h'; rw [h, h']
