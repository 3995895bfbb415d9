abbrev mF (t n : Int32) (q : Nat → Nat) (co cr po : Int32) (tx ty : Int64) : List Value := [.int t, .int n, .ref (q 1), .ref (q 2), .ref (q 3), .ref (q 4), .ref (q 5), .ref (q 6), .ref (q 7), .int co, .ref (q 8), .ref (q 9), .ref (q 10), .ref (q 11), .int cr, .int po, .ref (q 12), .long tx, .long ty]
theorem mb_01 {b : Int32} {P Q : Prop} (h : (b = 1 ∧ P) ∨ (b = 0 ∧ Q)) : b = 0 ∨ b = 1 := by rcases h with h | h; exact Or.inr h.1; exact Or.inl h.1
/-- a contract with its end said otherwise -/
theorem Ct.weaken {l : Launch} {y : MethodName} {wc : List Cond} {rm : Room} {G : jG} {av : List Value} {w : va_W} {S S' : Type} {post : Option Value → S → Prop} {Bo Bn : S → va_W} {post' : Option Value → S' → Prop} {Bo' Bn' : S' → va_W} (h : Ct l y wc rm G av w post Bo Bn) (ha : ∀ u, (Bo' u).map Prod.fst = w.map Prod.fst) (hq : ∀ v u, post v u → ∃ u', post' v u' ∧ Bo u = Bo' u' ∧ Bn u = Bn' u') : Ct l y wc rm G av w post' Bo' Bn' := by
  refine ⟨ha, fun sz p e h1 h2 h3 s m args below h4 h5 h6 h7 => ?_⟩
  obtain ⟨k, o, a1, a2, a3, ⟨⟨⟨v, u, b1, b2, b3, b4, b5⟩, b6⟩, b7⟩⟩ := h.2 sz p e h1 h2 h3 s m args below h4 h5 h6 h7
  obtain ⟨u', c1, c2, c3⟩ := hq v u b2
  rw [c2, c3] at b3 b5
  exact ⟨k, o, a1, a2, a3, ⟨⟨⟨v, u', b1, c1, b3, b4, b5⟩, b6⟩, b7⟩⟩
theorem rg_rng (zs : List Int) (k : Nat) : 0 ≤ (rg zs k).toInt ∧ (rg zs k).toInt < 65536 := eg_rng _ _
theorem dsub {x a b : Int32} (e : x = a - b) (ha : 0 ≤ a.toInt ∧ a.toInt < 65536) (hb : 0 ≤ b.toInt ∧ b.toInt < 65536) : x.toInt = a.toInt - b.toInt := by rw [e, i_sub] <;> omega
