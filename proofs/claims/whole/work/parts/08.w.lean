theorem i_nI {x : Int32} {k : Nat} (h : x.toInt = k) (hk : k < 2147483648) : x = nI k := i_eq (h.trans (nI_T hk).symm)
theorem s_next {v : Int} {i : Nat} {r r' : Int64} (h : r.toInt = v / dP i) (h2 : r'.toInt = r.toInt / 4294967296) : r'.toInt = v / dP (i + 1) := by
  rw [h2, h, dP_s, Int.ediv_ediv_of_nonneg (Int.le_of_lt (dP_pos i))]
theorem s_dig {v : Int} {i : Nat} {r : Int64} (h : r.toInt = v / dP i) : r &&& 4294967295 = dg v i := dg_eq (by rw [l_lo, h])
theorem s_step {i : Nat} {g : Nat → Int64} {d : Nat → Int64} {x : Int64} (h : ∀ j, j < i → g j = d j) (hx : x = d i) : ∀ j, j < i + 1 → vp_updL g i x j = d j := by
  intro j hj
  by_cases e : j = i
  · rw [e, pk_uLs, hx]
  · rw [pk_uLn e, h j (by omega)]
-- LITERALS
theorem iT0 : (0 : Int32).toInt = 0 := rfl
theorem iT1 : (1 : Int32).toInt = 1 := rfl
theorem iT2 : (2 : Int32).toInt = 2 := rfl
theorem iT3 : (3 : Int32).toInt = 3 := rfl
theorem iT4 : (4 : Int32).toInt = 4 := rfl
theorem iT5 : (5 : Int32).toInt = 5 := rfl
theorem iT6 : (6 : Int32).toInt = 6 := rfl
theorem iT7 : (7 : Int32).toInt = 7 := rfl
theorem iT8 : (8 : Int32).toInt = 8 := rfl
theorem iT9 : (9 : Int32).toInt = 9 := rfl
theorem iT10 : (10 : Int32).toInt = 10 := rfl
theorem iT11 : (11 : Int32).toInt = 11 := rfl
theorem iT12 : (12 : Int32).toInt = 12 := rfl
theorem iT13 : (13 : Int32).toInt = 13 := rfl
theorem iT14 : (14 : Int32).toInt = 14 := rfl
theorem iT15 : (15 : Int32).toInt = 15 := rfl
theorem iT16 : (16 : Int32).toInt = 16 := rfl
theorem iT19 : (19 : Int32).toInt = 19 := rfl
theorem iT20 : (20 : Int32).toInt = 20 := rfl
theorem iT31 : (31 : Int32).toInt = 31 := rfl
theorem iT32 : (32 : Int32).toInt = 32 := rfl
theorem iT42 : (42 : Int32).toInt = 42 := rfl
theorem iT64 : (64 : Int32).toInt = 64 := rfl
theorem iT200 : (200 : Int32).toInt = 200 := rfl
theorem iT318 : (318 : Int32).toInt = 318 := rfl
theorem iT319 : (319 : Int32).toInt = 319 := rfl
theorem iT1000 : (1000 : Int32).toInt = 1000 := rfl
theorem iTm1 : (-1 : Int32).toInt = -1 := rfl
theorem iTm2 : (-2 : Int32).toInt = -2 := rfl
theorem cmp_eq {x y : Int64} : lg_cmp x y = 0 ↔ x.toInt = y.toInt := by
  unfold lg_cmp
  simp only [gt_iff_lt, Int64.lt_iff_toInt_lt, ← Int64.toInt_inj]
  repeat' split
  all_goals (constructor <;> intro hh <;> first | omega | decide | exact absurd hh (by decide))
theorem cmp_lt {x y : Int64} : lg_cmp x y < 0 ↔ x.toInt < y.toInt := by
  unfold lg_cmp
  simp only [gt_iff_lt, Int64.lt_iff_toInt_lt, ← Int64.toInt_inj]
  repeat' split
  all_goals (constructor <;> intro hh <;> first | omega | decide | exact absurd hh (by decide))
theorem cmp_ge {x y : Int64} : 0 ≤ lg_cmp x y ↔ y.toInt ≤ x.toInt := by
  unfold lg_cmp
  simp only [gt_iff_lt, Int64.lt_iff_toInt_lt, ← Int64.toInt_inj]
  repeat' split
  all_goals (constructor <;> intro hh <;> first | omega | decide | exact absurd hh (by decide))
theorem cmp_gt {x y : Int64} : 0 < lg_cmp x y ↔ y.toInt < x.toInt := by
  unfold lg_cmp
  simp only [gt_iff_lt, Int64.lt_iff_toInt_lt, ← Int64.toInt_inj]
  repeat' split
  all_goals (constructor <;> intro hh <;> first | omega | decide | exact absurd hh (by decide))
theorem cmp_le {x y : Int64} : lg_cmp x y ≤ 0 ↔ x.toInt ≤ y.toInt := by
  unfold lg_cmp
  simp only [gt_iff_lt, Int64.lt_iff_toInt_lt, ← Int64.toInt_inj]
  repeat' split
  all_goals (constructor <;> intro hh <;> first | omega | decide | exact absurd hh (by decide))
theorem lT0 : (0 : Int64).toInt = 0 := rfl
theorem lT1 : (1 : Int64).toInt = 1 := rfl
theorem lTL : (4294967295 : Int64).toInt = 4294967295 := rfl
