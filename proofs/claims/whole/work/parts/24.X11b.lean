abbrev rm_X11_join : Room := { frames := 1, cells := 0, slots := 0, locals := 24 }
theorem in_X11_join_X11 : ∀ w ∈ u_ws RX11 TX11 19, w ∈ wsX11_join := by decide +kernel
theorem fl_X11_join_42 : Cond.fieldLink RX11 42 (TX11 13).1 (TX11 13).2.1 (TX11 13).2.2.1 ∈ wsX11_join := by decide +kernel
theorem fl_X11_join_39 : Cond.fieldLink RX11 39 (TX11 12).1 (TX11 12).2.1 (TX11 12).2.2.1 ∈ wsX11_join := by decide +kernel
theorem k_X11_join_66 : Cond.constant RX11 66 (65535) ∈ wsX11_join := by decide +kernel
set_option maxHeartbeats 4000000 in
set_option maxRecDepth 100000 in
theorem c_X11_join (l : Launch) (G : jG) (q : Nat → Nat) (t n co cr po : Int32) (tx ty : Int64) (zs : List Int) (hl : zs.length = 16) (sf : Nat → Int32) (r : Int32) (dd : Nat) (hdd : r.toInt = dd) (gdd : dd < 16) (ra : Int32) (aa : Nat) (haa : ra.toInt = aa) (gaa : aa < 16) (rb : Int32) (bb : Nat) (hbb : rb.toInt = bb) (gbb : bb < 16) (ls : Int32) (hls : ls = 0 ∨ ls = 1) (hda : dd ≠ aa) (hdb : dd ≠ bb) (hoka : ok1 (sf aa) (zs.getD aa 0)) (hokb : ok1 (sf bb) (zs.getD bb 0)) (hba : (zs.getD aa 0).natAbs < 2135987035920910082395021706169552114602704522356652769947041607822219725780640550022962086936576) (hbb2 : (zs.getD bb 0).natAbs < 2135987035920910082395021706169552114602704522356652769947041607822219725780640550022962086936576) : Ct l yX11_join wsX11_join rm_X11_join G [.ref (q 0), .int r, .int ra, .int rb, .int ls] [(q 0, .inr (10, mF t n q co cr po tx ty)), (q 10, aI G 320 (rg zs)), (q 11, aZ G 16 sf)] (S := Int32) (fun r b => r = none ∧ ok1 b (jn ls (zs.getD aa 0) (zs.getD bb 0))) (fun b => [(q 0, .inr (10, mF t n q co cr po tx ty)), (q 10, aI G 320 (rg (zs.set dd (jn ls (zs.getD aa 0) (zs.getD bb 0))))), (q 11, aZ G 16 (upd sf dd b))]) (fun _ => []) := by
  refine c_intro (cc := cX11_join) (maxL := 13) (ret := none) (by decide) rfl (Nat.le_of_ble_eq_true rfl) (fun _ => by simp only [List.map_cons, List.map_nil]) ?_
  intro p e s m args below meth c Q A X hr hin E
  change J p l e rm_X11_join s m args below meth c Q G A 13 0 0 0 [(0, .ref (q 0)), (1, .int r), (2, .int ra), (3, .int rb), (4, .int ls)] [] [(q 0, .inr (10, mF t n q co cr po tx ty)), (q 10, aI G 320 (rg zs)), (q 11, aZ G 16 sf)]
  refine j_aload_n X dX11_join_0 rfl 0 rfl ?_
  refine j_get (v := .ref (q 11)) X dX11_join_1 0 rfl 13 rfl in_X11_join_X11 (by decide) fl_X11_join_42 rfl ?_
  refine j_iload_n X dX11_join_4 rfl 3 rfl ?_
  refine j_zald X dX11_join_5 2 rfl bb (i_nI hbb (by omega)) (by omega) (by decide) ?_
  refine j_iload X dX11_join_6 4 rfl ?_
  have cut16 : ∀ (o : Int32) (ho : (o = 1 ∧ ¬ sf bb = ls) ∨ (o = 0 ∧ sf bb = ls)), J p l e rm_X11_join s m args below meth c Q G A 13 0 0 16 [(0, .ref (q 0)), (1, .int r), (2, .int ra), (3, .int rb), (4, .int ls)] [.int o] [(q 0, .inr (10, mF t n q co cr po tx ty)), (q 10, aI G 320 (rg zs)), (q 11, aZ G 16 sf)] := by
    intro o ho
    have hoko := jn_ok hokb hls ho
    refine j_istore (L' := [(5, .int o), (0, .ref (q 0)), (1, .int r), (2, .int ra), (3, .int rb), (4, .int ls)]) X dX11_join_16 (by decide) rfl ?_
    refine j_aload_n X dX11_join_18 rfl 1 rfl ?_
    refine j_get (v := .ref (q 11)) X dX11_join_19 0 rfl 13 rfl in_X11_join_X11 (by decide) fl_X11_join_42 rfl ?_
    refine j_iload_n X dX11_join_22 rfl 3 rfl ?_
    refine j_zald X dX11_join_23 2 rfl aa (i_nI haa (by omega)) (by omega) (by decide) ?_
    refine j_iload X dX11_join_24 0 rfl ?_
    refine j_icmp_ne (tgt := 33) X dX11_join_26 (by decide) (fun c_26 => ?_) (fun c_26 => ?_)
    · skip
      refine j_iconst (v := 0) X dX11_join_33 rfl ?_
      refine j_istore (L' := [(6, .int 0), (5, .int o), (0, .ref (q 0)), (1, .int r), (2, .int ra), (3, .int rb), (4, .int ls)]) X dX11_join_34 (by decide) rfl ?_
      refine j_iload X dX11_join_36 0 rfl ?_
      refine j_if_ne (tgt := 54) X dX11_join_38 (by decide) (fun c9 => absurd c9 (by decide)) (fun _ => ?_)
      refine j_aload_n X dX11_join_41 rfl 2 rfl ?_
      refine j_iload_n X dX11_join_42 rfl 4 rfl ?_
      refine j_iload_n X dX11_join_43 rfl 5 rfl ?_
      refine j_callV X dX11_join_44 (c_X11_sizes l G q t n co cr po tx ty zs hl sf ra aa haa gaa rb bb hbb gbb hba hbb2) gX11_join_X11_sizes rfl hy_X11_sizes_V ⟨Nat.le_of_ble_eq_true rfl, Nat.le_of_ble_eq_true rfl⟩ 0 rfl rfl [0, 1, 2] rfl (by decide) rfl rfl (Nat.le_of_ble_eq_true rfl) ⟨Nat.le_of_ble_eq_true rfl, Nat.le_of_ble_eq_true rfl⟩ ?_
      rintro _ ⟨⟩ rfl
      change J p l e rm_X11_join s m args below meth c Q G A 13 0 0 47 [(6, .int 0), (5, .int o), (0, .ref (q 0)), (1, .int r), (2, .int ra), (3, .int rb), (4, .int ls)] [.int (sg (zA zs aa - zA zs bb))] [(q 0, .inr (10, mF t n q co cr po tx ty)), (q 10, aI G 320 (rg zs)), (q 11, aZ G 16 sf)]
      refine j_if_ge (tgt := 54) X dX11_join_47 (by decide) (fun c_47 => ?_) (fun c_47 => ?_)
      · skip
        first | simp only [cmp_eq, cmp_lt, cmp_ge, cmp_gt, cmp_le, lT0, lT1] at c_47 | simp only [Int32.le_iff_toInt_le, Int32.lt_iff_toInt_lt, ← Int32.toInt_inj, iT0, iT1, iT2, iT3, iT4, iT5, iT6, iT7, iT8, iT9, iT10, iT11, iT12, iT13, iT14, iT15, iT16, iT19, iT20, iT31, iT32, iT42, iT64, iT200, iT318, iT319, iT1000, iTm1, iTm2] at c_47
        have hsg := sg_T (zA zs aa - zA zs bb)
        refine j_iconst (v := 0) X dX11_join_54 rfl ?_
        refine j_istore (L' := [(7, .int 0), (6, .int 0), (5, .int o), (0, .ref (q 0)), (1, .int r), (2, .int ra), (3, .int rb), (4, .int ls)]) X dX11_join_55 (by decide) rfl ?_
        refine j_aload_n X dX11_join_57 rfl 3 rfl ?_
        refine j_get (v := .ref (q 11)) X dX11_join_58 0 rfl 13 rfl in_X11_join_X11 (by decide) fl_X11_join_42 rfl ?_
        refine j_iload_n X dX11_join_61 rfl 4 rfl ?_
        refine j_iload X dX11_join_62 0 rfl ?_
        refine j_if_eq (tgt := 72) X dX11_join_64 (by decide) (fun _ => ?_) (fun c9 => absurd c9 (by decide))
        refine j_aload_n X dX11_join_72 rfl 3 rfl ?_
        refine j_get (v := .ref (q 11)) X dX11_join_73 0 rfl 13 rfl in_X11_join_X11 (by decide) fl_X11_join_42 rfl ?_
        refine j_iload_n X dX11_join_76 rfl 5 rfl ?_
        refine j_zald X dX11_join_77 2 rfl aa (i_nI haa (by omega)) (by omega) (by decide) ?_
        refine j_zast (ws' := [(q 0, .inr (10, mF t n q co cr po tx ty)), (q 10, aI G 320 (rg zs)), (q 11, aZ G 16 (upd sf dd (sf aa)))]) X dX11_join_78 2 rfl dd (i_nI hdd (by omega)) (by omega) (by decide) (ok1_01 hoka) rfl ?_
        refine j_iconst (v := 0) X dX11_join_79 rfl ?_
        refine j_istore (L' := [(8, .int 0), (7, .int 0), (6, .int 0), (5, .int o), (0, .ref (q 0)), (1, .int r), (2, .int ra), (3, .int rb), (4, .int ls)]) X dX11_join_80 (by decide) rfl ?_
        refine j_iconst (v := 0) X dX11_join_82 rfl ?_
        refine j_istore (L' := [(9, .int 0), (8, .int 0), (7, .int 0), (6, .int 0), (5, .int o), (0, .ref (q 0)), (1, .int r), (2, .int ra), (3, .int rb), (4, .int ls)]) X dX11_join_83 (by decide) rfl ?_
        have loop : ∀ (d : Nat) (i : Nat) (k c8 : Int32) (g : Nat → Int32) (hi : i ≤ 20) (hx : k.toInt = i) (hr1 : c8.toInt = -((zA zs aa % eP i - zA zs bb % eP i) / eP i)) (hg1 : ∀ j, j < i → g (20 * dd + j) = eg (zA zs aa - zA zs bb) j) (hg2 : ∀ k, k < 320 → k / 20 ≠ dd → g k = rg zs k), 20 - i < d → J p l e rm_X11_join s m args below meth c Q G A 13 0 0 85 [(0, .ref (q 0)), (1, .int r), (2, .int ra), (3, .int rb), (6, .int 0), (7, .int 0), (8, .int c8), (9, .int k)] [] [(q 0, .inr (10, mF t n q co cr po tx ty)), (q 10, aI G 320 g), (q 11, aZ G 16 (upd sf dd (sf aa)))] := by
          intro d
          induction d with
          | zero => intro i k c8 g hi hx hr1 hg1 hg2 hd0; exact absurd hd0 (Nat.not_lt_zero _)
          | succ d ih =>
            intro i k c8 g hi hx hr1 hg1 hg2 hd0
            refine j_iload X dX11_join_85 7 rfl ?_
            refine j_bipush (v := 20) X dX11_join_87 (by decide) ?_
            refine j_icmp_ge (tgt := 212) X dX11_join_89 (by decide) (fun c_89 => ?_) (fun c_89 => ?_)
            · skip
              first | simp only [cmp_eq, cmp_lt, cmp_ge, cmp_gt, cmp_le, lT0, lT1] at c_89 | simp only [Int32.le_iff_toInt_le, Int32.lt_iff_toInt_lt, ← Int32.toInt_inj, iT0, iT1, iT2, iT3, iT4, iT5, iT6, iT7, iT8, iT9, iT10, iT11, iT12, iT13, iT14, iT15, iT16, iT19, iT20, iT31, iT32, iT42, iT64, iT200, iT318, iT319, iT1000, iTm1, iTm2] at c_89
              have hJ := jn_B hoka hoko c_26 (by rw [jn_abs]; unfold zA at c_47 hsg; omega)
              rw [← jn_add, jn_abs] at hJ
              have hN : ((jn ls (zs.getD aa 0) (zs.getD bb 0)).natAbs : Int) = zA zs aa - zA zs bb := by rw [hJ.1]; unfold zA; omega
              refine j_setI (g := rg (zs.set dd (jn ls (zs.getD aa 0) (zs.getD bb 0)))) 1 rfl (rg_set hl gdd (fun j hj => by rw [hN]; exact hg1 j (by omega)) hg2) rfl ?_
              exact E.1 212 _ (sf aa) dX11_join_212 (⟨rfl, hJ.2⟩) hr
            · skip
              first | simp only [cmp_eq, cmp_lt, cmp_ge, cmp_gt, cmp_le, lT0, lT1] at c_89 | simp only [Int32.le_iff_toInt_le, Int32.lt_iff_toInt_lt, ← Int32.toInt_inj, iT0, iT1, iT2, iT3, iT4, iT5, iT6, iT7, iT8, iT9, iT10, iT11, iT12, iT13, iT14, iT15, iT16, iT19, iT20, iT31, iT32, iT42, iT64, iT200, iT318, iT319, iT1000, iTm1, iTm2] at c_89
              refine j_aload_n X dX11_join_92 rfl 0 rfl ?_
              refine j_get (v := .ref (q 10)) X dX11_join_93 0 rfl 12 rfl in_X11_join_X11 (by decide) fl_X11_join_39 rfl ?_
              refine j_bipush (v := 20) X dX11_join_96 (by decide) ?_
              refine j_iload X dX11_join_98 5 rfl ?_
              refine j_if_eq (tgt := 107) X dX11_join_100 (by decide) (fun _ => ?_) (fun c9 => absurd c9 (by decide))
              refine j_iload_n X dX11_join_107 rfl 2 rfl ?_
              refine j_imul X dX11_join_108 ?_
              refine j_iload X dX11_join_109 7 rfl ?_
              refine j_iadd X dX11_join_111 ?_
              refine j_iald X dX11_join_112 1 rfl (20 * aa + i) (i_nI (ix20 haa hx gaa (by omega)) (by omega)) (by omega) (by decide) ?_
              refine j_topi (fun x_1 ex_1 => ?_)
              refine j_istore (L' := [(10, .int x_1), (0, .ref (q 0)), (1, .int r), (2, .int ra), (3, .int rb), (6, .int 0), (7, .int 0), (8, .int c8), (9, .int k)]) X dX11_join_113 (by decide) rfl ?_
              refine j_aload_n X dX11_join_115 rfl 1 rfl ?_
              refine j_get (v := .ref (q 10)) X dX11_join_116 0 rfl 12 rfl in_X11_join_X11 (by decide) fl_X11_join_39 rfl ?_
              refine j_bipush (v := 20) X dX11_join_119 (by decide) ?_
              refine j_iload X dX11_join_121 6 rfl ?_
              refine j_if_eq (tgt := 130) X dX11_join_123 (by decide) (fun _ => ?_) (fun c9 => absurd c9 (by decide))
              refine j_iload_n X dX11_join_130 rfl 4 rfl ?_
              refine j_imul X dX11_join_131 ?_
              refine j_iload X dX11_join_132 8 rfl ?_
              refine j_iadd X dX11_join_134 ?_
              refine j_iald X dX11_join_135 1 rfl (20 * bb + i) (i_nI (ix20 hbb hx gbb (by omega)) (by omega)) (by omega) (by decide) ?_
              refine j_topi (fun x_2 ex_2 => ?_)
              refine j_istore (L' := [(11, .int x_2), (10, .int x_1), (0, .ref (q 0)), (1, .int r), (2, .int ra), (3, .int rb), (6, .int 0), (7, .int 0), (8, .int c8), (9, .int k)]) X dX11_join_136 (by decide) rfl ?_
              refine j_iload X dX11_join_138 6 rfl ?_
              refine j_if_eq (tgt := 154) X dX11_join_140 (by decide) (fun _ => ?_) (fun c9 => absurd c9 (by decide))
              refine j_iload X dX11_join_154 1 rfl ?_
              refine j_iload X dX11_join_156 0 rfl ?_
              refine j_isub X dX11_join_158 ?_
              refine j_iload X dX11_join_159 8 rfl ?_
              refine j_isub X dX11_join_161 ?_
              refine j_topi (fun x_3 ex_3 => ?_)
              refine j_istore (L' := [(12, .int x_3), (11, .int x_2), (10, .int x_1), (0, .ref (q 0)), (1, .int r), (2, .int ra), (3, .int rb), (6, .int 0), (7, .int 0), (8, .int c8), (9, .int k)]) X dX11_join_162 (by decide) rfl ?_
              refine j_aload_n X dX11_join_164 rfl 3 rfl ?_
              refine j_get (v := .ref (q 10)) X dX11_join_165 0 rfl 12 rfl in_X11_join_X11 (by decide) fl_X11_join_39 rfl ?_
              refine j_bipush (v := 20) X dX11_join_168 (by decide) ?_
              refine j_iload_n X dX11_join_170 rfl 4 rfl ?_
              refine j_imul X dX11_join_171 ?_
              refine j_iload X dX11_join_172 10 rfl ?_
              refine j_iadd X dX11_join_174 ?_
              refine j_iload X dX11_join_175 0 rfl ?_
              refine j_ldc (v := 65535) X dX11_join_177 k_X11_join_66 ?_
              refine j_iand X dX11_join_179 ?_
              refine j_topi (fun x_4 ex_4 => ?_)
              refine j_iast (ws' := [(q 0, .inr (10, mF t n q co cr po tx ty)), (q 10, aI G 320 (upd g (20 * dd + i) x_4)), (q 11, aZ G 16 (upd sf dd (sf aa)))]) X dX11_join_180 1 rfl (20 * dd + i) (i_nI (ix20 hdd hx gdd (by omega)) (by omega)) (by omega) (by decide) rfl ?_
              refine j_iload X dX11_join_181 7 rfl ?_
              refine j_if_eq (tgt := 194) X dX11_join_183 (by decide) (fun _ => ?_) (fun c9 => absurd c9 (by decide))
              refine j_iload X dX11_join_194 0 rfl ?_
              have cut204 : ∀ (c4 : Int32) (hc4 : (x_3.toInt < 0 ∧ c4.toInt = 1) ∨ (0 ≤ x_3.toInt ∧ c4.toInt = 0)), J p l e rm_X11_join s m args below meth c Q G A 13 0 0 204 [(12, .int x_3), (11, .int x_2), (10, .int x_1), (0, .ref (q 0)), (1, .int r), (2, .int ra), (3, .int rb), (6, .int 0), (7, .int 0), (8, .int c8), (9, .int k)] [.int c4] [(q 0, .inr (10, mF t n q co cr po tx ty)), (q 10, aI G 320 (upd g (20 * dd + i) x_4)), (q 11, aZ G 16 (upd sf dd (sf aa)))] := by
                intro c4 hc4
                refine j_istore (L' := [(8, .int c4), (12, .int x_3), (11, .int x_2), (10, .int x_1), (0, .ref (q 0)), (1, .int r), (2, .int ra), (3, .int rb), (6, .int 0), (7, .int 0), (9, .int k)]) X dX11_join_204 (by decide) rfl ?_
                obtain ⟨x_5, ex_5⟩ : ∃ y9 : Int32, y9 = k + 1 := ⟨_, rfl⟩
                refine j_iinc (v := x_5) (L' := [(9, .int x_5), (8, .int c4), (12, .int x_3), (11, .int x_2), (10, .int x_1), (0, .ref (q 0)), (1, .int r), (2, .int ra), (3, .int rb), (6, .int 0), (7, .int 0)]) X dX11_join_206 10 rfl (by rw [ex_5]; rfl) (by decide) rfl ?_
                refine j_goto (tgt := 85) X dX11_join_209 (by decide) ?_
                refine j_sub [5, 6, 7, 8, 9, 10, 1, 0] rfl ?_
                exact ih (i + 1) x_5 c4 (upd g (20 * dd + i) x_4) (by omega) (x_s hx (by omega) ex_5) (ek_c (ex_1.trans ((hg2 _ (by omega) (by omega)).trans (rg_at zs (by omega)))) (ex_2.trans ((hg2 _ (by omega) (by omega)).trans (rg_at zs (by omega)))) hr1 ex_3 hc4) (r_step hg1 (ex_4.trans (ek_d (ex_1.trans ((hg2 _ (by omega) (by omega)).trans (rg_at zs (by omega)))) (ex_2.trans ((hg2 _ (by omega) (by omega)).trans (rg_at zs (by omega)))) hr1 ex_3))) (r_rest (by omega) hg2) (by omega)
              refine j_if_ge (tgt := 203) X dX11_join_196 (by decide) (fun c_196 => ?_) (fun c_196 => ?_)
              · skip
                first | simp only [cmp_eq, cmp_lt, cmp_ge, cmp_gt, cmp_le, lT0, lT1] at c_196 | simp only [Int32.le_iff_toInt_le, Int32.lt_iff_toInt_lt, ← Int32.toInt_inj, iT0, iT1, iT2, iT3, iT4, iT5, iT6, iT7, iT8, iT9, iT10, iT11, iT12, iT13, iT14, iT15, iT16, iT19, iT20, iT31, iT32, iT42, iT64, iT200, iT318, iT319, iT1000, iTm1, iTm2] at c_196
                refine j_iconst (v := 0) X dX11_join_203 rfl ?_
                exact cut204 0 (by exact Or.inr ⟨by omega, rfl⟩)
              · skip
                first | simp only [cmp_eq, cmp_lt, cmp_ge, cmp_gt, cmp_le, lT0, lT1] at c_196 | simp only [Int32.le_iff_toInt_le, Int32.lt_iff_toInt_lt, ← Int32.toInt_inj, iT0, iT1, iT2, iT3, iT4, iT5, iT6, iT7, iT8, iT9, iT10, iT11, iT12, iT13, iT14, iT15, iT16, iT19, iT20, iT31, iT32, iT42, iT64, iT200, iT318, iT319, iT1000, iTm1, iTm2] at c_196
                refine j_iconst (v := 1) X dX11_join_199 rfl ?_
                refine j_goto (tgt := 204) X dX11_join_200 (by decide) ?_
                exact cut204 1 (by exact Or.inl ⟨by omega, rfl⟩)
        refine j_sub [5, 6, 7, 8, 3, 2, 1, 0] rfl ?_
        exact loop 21 0 0 0 (rg zs) (by omega) rfl (by rw [eP_0, iT0]; omega) (fun j hj => absurd hj (Nat.not_lt_zero j)) (fun k _ _ => rfl) (by omega)
      · skip
        first | simp only [cmp_eq, cmp_lt, cmp_ge, cmp_gt, cmp_le, lT0, lT1] at c_47 | simp only [Int32.le_iff_toInt_le, Int32.lt_iff_toInt_lt, ← Int32.toInt_inj, iT0, iT1, iT2, iT3, iT4, iT5, iT6, iT7, iT8, iT9, iT10, iT11, iT12, iT13, iT14, iT15, iT16, iT19, iT20, iT31, iT32, iT42, iT64, iT200, iT318, iT319, iT1000, iTm1, iTm2] at c_47
        have hsg := sg_T (zA zs aa - zA zs bb)
        refine j_iconst (v := 1) X dX11_join_50 rfl ?_
        refine j_goto (tgt := 55) X dX11_join_51 (by decide) ?_
        refine j_istore (L' := [(7, .int 1), (6, .int 0), (5, .int o), (0, .ref (q 0)), (1, .int r), (2, .int ra), (3, .int rb), (4, .int ls)]) X dX11_join_55 (by decide) rfl ?_
        refine j_aload_n X dX11_join_57 rfl 3 rfl ?_
        refine j_get (v := .ref (q 11)) X dX11_join_58 0 rfl 13 rfl in_X11_join_X11 (by decide) fl_X11_join_42 rfl ?_
        refine j_iload_n X dX11_join_61 rfl 4 rfl ?_
        refine j_iload X dX11_join_62 0 rfl ?_
        refine j_if_eq (tgt := 72) X dX11_join_64 (by decide) (fun c9 => absurd c9 (by decide)) (fun _ => ?_)
        refine j_iload X dX11_join_67 2 rfl ?_
        refine j_goto (tgt := 78) X dX11_join_69 (by decide) ?_
        refine j_zast (ws' := [(q 0, .inr (10, mF t n q co cr po tx ty)), (q 10, aI G 320 (rg zs)), (q 11, aZ G 16 (upd sf dd o))]) X dX11_join_78 2 rfl dd (i_nI hdd (by omega)) (by omega) (by decide) (mb_01 ho) rfl ?_
        refine j_iconst (v := 0) X dX11_join_79 rfl ?_
        refine j_istore (L' := [(8, .int 0), (7, .int 1), (6, .int 0), (5, .int o), (0, .ref (q 0)), (1, .int r), (2, .int ra), (3, .int rb), (4, .int ls)]) X dX11_join_80 (by decide) rfl ?_
        refine j_iconst (v := 0) X dX11_join_82 rfl ?_
        refine j_istore (L' := [(9, .int 0), (8, .int 0), (7, .int 1), (6, .int 0), (5, .int o), (0, .ref (q 0)), (1, .int r), (2, .int ra), (3, .int rb), (4, .int ls)]) X dX11_join_83 (by decide) rfl ?_
        have loop : ∀ (d : Nat) (i : Nat) (k c8 : Int32) (g : Nat → Int32) (hi : i ≤ 20) (hx : k.toInt = i) (hr1 : c8.toInt = -((zA zs bb % eP i - zA zs aa % eP i) / eP i)) (hg1 : ∀ j, j < i → g (20 * dd + j) = eg (zA zs bb - zA zs aa) j) (hg2 : ∀ k, k < 320 → k / 20 ≠ dd → g k = rg zs k), 20 - i < d → J p l e rm_X11_join s m args below meth c Q G A 13 0 0 85 [(0, .ref (q 0)), (1, .int r), (2, .int ra), (3, .int rb), (6, .int 0), (7, .int 1), (8, .int c8), (9, .int k)] [] [(q 0, .inr (10, mF t n q co cr po tx ty)), (q 10, aI G 320 g), (q 11, aZ G 16 (upd sf dd o))] := by
          intro d
          induction d with
          | zero => intro i k c8 g hi hx hr1 hg1 hg2 hd0; exact absurd hd0 (Nat.not_lt_zero _)
          | succ d ih =>
            intro i k c8 g hi hx hr1 hg1 hg2 hd0
            refine j_iload X dX11_join_85 7 rfl ?_
            refine j_bipush (v := 20) X dX11_join_87 (by decide) ?_
            refine j_icmp_ge (tgt := 212) X dX11_join_89 (by decide) (fun c_89 => ?_) (fun c_89 => ?_)
            · skip
              first | simp only [cmp_eq, cmp_lt, cmp_ge, cmp_gt, cmp_le, lT0, lT1] at c_89 | simp only [Int32.le_iff_toInt_le, Int32.lt_iff_toInt_lt, ← Int32.toInt_inj, iT0, iT1, iT2, iT3, iT4, iT5, iT6, iT7, iT8, iT9, iT10, iT11, iT12, iT13, iT14, iT15, iT16, iT19, iT20, iT31, iT32, iT42, iT64, iT200, iT318, iT319, iT1000, iTm1, iTm2] at c_89
              have hJ := jn_C hoka hoko c_26 (by rw [jn_abs]; unfold zA at c_47 hsg; omega)
              rw [← jn_add, jn_abs] at hJ
              have hN : ((jn ls (zs.getD aa 0) (zs.getD bb 0)).natAbs : Int) = zA zs bb - zA zs aa := by rw [hJ.1]; unfold zA; omega
              refine j_setI (g := rg (zs.set dd (jn ls (zs.getD aa 0) (zs.getD bb 0)))) 1 rfl (rg_set hl gdd (fun j hj => by rw [hN]; exact hg1 j (by omega)) hg2) rfl ?_
              exact E.1 212 _ o dX11_join_212 (⟨rfl, hJ.2⟩) hr
            · skip
              first | simp only [cmp_eq, cmp_lt, cmp_ge, cmp_gt, cmp_le, lT0, lT1] at c_89 | simp only [Int32.le_iff_toInt_le, Int32.lt_iff_toInt_lt, ← Int32.toInt_inj, iT0, iT1, iT2, iT3, iT4, iT5, iT6, iT7, iT8, iT9, iT10, iT11, iT12, iT13, iT14, iT15, iT16, iT19, iT20, iT31, iT32, iT42, iT64, iT200, iT318, iT319, iT1000, iTm1, iTm2] at c_89
              refine j_aload_n X dX11_join_92 rfl 0 rfl ?_
              refine j_get (v := .ref (q 10)) X dX11_join_93 0 rfl 12 rfl in_X11_join_X11 (by decide) fl_X11_join_39 rfl ?_
              refine j_bipush (v := 20) X dX11_join_96 (by decide) ?_
              refine j_iload X dX11_join_98 5 rfl ?_
              refine j_if_eq (tgt := 107) X dX11_join_100 (by decide) (fun c9 => absurd c9 (by decide)) (fun _ => ?_)
              refine j_iload_n X dX11_join_103 rfl 3 rfl ?_
              refine j_goto (tgt := 108) X dX11_join_104 (by decide) ?_
              refine j_imul X dX11_join_108 ?_
              refine j_iload X dX11_join_109 7 rfl ?_
              refine j_iadd X dX11_join_111 ?_
              refine j_iald X dX11_join_112 1 rfl (20 * bb + i) (i_nI (ix20 hbb hx gbb (by omega)) (by omega)) (by omega) (by decide) ?_
              refine j_topi (fun x_6 ex_6 => ?_)
              refine j_istore (L' := [(10, .int x_6), (0, .ref (q 0)), (1, .int r), (2, .int ra), (3, .int rb), (6, .int 0), (7, .int 1), (8, .int c8), (9, .int k)]) X dX11_join_113 (by decide) rfl ?_
              refine j_aload_n X dX11_join_115 rfl 1 rfl ?_
              refine j_get (v := .ref (q 10)) X dX11_join_116 0 rfl 12 rfl in_X11_join_X11 (by decide) fl_X11_join_39 rfl ?_
              refine j_bipush (v := 20) X dX11_join_119 (by decide) ?_
              refine j_iload X dX11_join_121 6 rfl ?_
              refine j_if_eq (tgt := 130) X dX11_join_123 (by decide) (fun c9 => absurd c9 (by decide)) (fun _ => ?_)
              refine j_iload_n X dX11_join_126 rfl 3 rfl ?_
              refine j_goto (tgt := 131) X dX11_join_127 (by decide) ?_
              refine j_imul X dX11_join_131 ?_
              refine j_iload X dX11_join_132 8 rfl ?_
              refine j_iadd X dX11_join_134 ?_
              refine j_iald X dX11_join_135 1 rfl (20 * aa + i) (i_nI (ix20 haa hx gaa (by omega)) (by omega)) (by omega) (by decide) ?_
              refine j_topi (fun x_7 ex_7 => ?_)
              refine j_istore (L' := [(11, .int x_7), (10, .int x_6), (0, .ref (q 0)), (1, .int r), (2, .int ra), (3, .int rb), (6, .int 0), (7, .int 1), (8, .int c8), (9, .int k)]) X dX11_join_136 (by decide) rfl ?_
              refine j_iload X dX11_join_138 6 rfl ?_
              refine j_if_eq (tgt := 154) X dX11_join_140 (by decide) (fun _ => ?_) (fun c9 => absurd c9 (by decide))
              refine j_iload X dX11_join_154 1 rfl ?_
              refine j_iload X dX11_join_156 0 rfl ?_
              refine j_isub X dX11_join_158 ?_
              refine j_iload X dX11_join_159 8 rfl ?_
              refine j_isub X dX11_join_161 ?_
              refine j_topi (fun x_8 ex_8 => ?_)
              refine j_istore (L' := [(12, .int x_8), (11, .int x_7), (10, .int x_6), (0, .ref (q 0)), (1, .int r), (2, .int ra), (3, .int rb), (6, .int 0), (7, .int 1), (8, .int c8), (9, .int k)]) X dX11_join_162 (by decide) rfl ?_
              refine j_aload_n X dX11_join_164 rfl 3 rfl ?_
              refine j_get (v := .ref (q 10)) X dX11_join_165 0 rfl 12 rfl in_X11_join_X11 (by decide) fl_X11_join_39 rfl ?_
              refine j_bipush (v := 20) X dX11_join_168 (by decide) ?_
              refine j_iload_n X dX11_join_170 rfl 4 rfl ?_
              refine j_imul X dX11_join_171 ?_
              refine j_iload X dX11_join_172 10 rfl ?_
              refine j_iadd X dX11_join_174 ?_
              refine j_iload X dX11_join_175 0 rfl ?_
              refine j_ldc (v := 65535) X dX11_join_177 k_X11_join_66 ?_
              refine j_iand X dX11_join_179 ?_
              refine j_topi (fun x_9 ex_9 => ?_)
              refine j_iast (ws' := [(q 0, .inr (10, mF t n q co cr po tx ty)), (q 10, aI G 320 (upd g (20 * dd + i) x_9)), (q 11, aZ G 16 (upd sf dd o))]) X dX11_join_180 1 rfl (20 * dd + i) (i_nI (ix20 hdd hx gdd (by omega)) (by omega)) (by omega) (by decide) rfl ?_
              refine j_iload X dX11_join_181 7 rfl ?_
              refine j_if_eq (tgt := 194) X dX11_join_183 (by decide) (fun _ => ?_) (fun c9 => absurd c9 (by decide))
              refine j_iload X dX11_join_194 0 rfl ?_
              have cut204 : ∀ (c4 : Int32) (hc4 : (x_8.toInt < 0 ∧ c4.toInt = 1) ∨ (0 ≤ x_8.toInt ∧ c4.toInt = 0)), J p l e rm_X11_join s m args below meth c Q G A 13 0 0 204 [(12, .int x_8), (11, .int x_7), (10, .int x_6), (0, .ref (q 0)), (1, .int r), (2, .int ra), (3, .int rb), (6, .int 0), (7, .int 1), (8, .int c8), (9, .int k)] [.int c4] [(q 0, .inr (10, mF t n q co cr po tx ty)), (q 10, aI G 320 (upd g (20 * dd + i) x_9)), (q 11, aZ G 16 (upd sf dd o))] := by
                intro c4 hc4
                refine j_istore (L' := [(8, .int c4), (12, .int x_8), (11, .int x_7), (10, .int x_6), (0, .ref (q 0)), (1, .int r), (2, .int ra), (3, .int rb), (6, .int 0), (7, .int 1), (9, .int k)]) X dX11_join_204 (by decide) rfl ?_
                obtain ⟨x_10, ex_10⟩ : ∃ y9 : Int32, y9 = k + 1 := ⟨_, rfl⟩
                refine j_iinc (v := x_10) (L' := [(9, .int x_10), (8, .int c4), (12, .int x_8), (11, .int x_7), (10, .int x_6), (0, .ref (q 0)), (1, .int r), (2, .int ra), (3, .int rb), (6, .int 0), (7, .int 1)]) X dX11_join_206 10 rfl (by rw [ex_10]; rfl) (by decide) rfl ?_
                refine j_goto (tgt := 85) X dX11_join_209 (by decide) ?_
                refine j_sub [5, 6, 7, 8, 9, 10, 1, 0] rfl ?_
                exact ih (i + 1) x_10 c4 (upd g (20 * dd + i) x_9) (by omega) (x_s hx (by omega) ex_10) (ek_c (ex_6.trans ((hg2 _ (by omega) (by omega)).trans (rg_at zs (by omega)))) (ex_7.trans ((hg2 _ (by omega) (by omega)).trans (rg_at zs (by omega)))) hr1 ex_8 hc4) (r_step hg1 (ex_9.trans (ek_d (ex_6.trans ((hg2 _ (by omega) (by omega)).trans (rg_at zs (by omega)))) (ex_7.trans ((hg2 _ (by omega) (by omega)).trans (rg_at zs (by omega)))) hr1 ex_8))) (r_rest (by omega) hg2) (by omega)
              refine j_if_ge (tgt := 203) X dX11_join_196 (by decide) (fun c_196 => ?_) (fun c_196 => ?_)
              · skip
                first | simp only [cmp_eq, cmp_lt, cmp_ge, cmp_gt, cmp_le, lT0, lT1] at c_196 | simp only [Int32.le_iff_toInt_le, Int32.lt_iff_toInt_lt, ← Int32.toInt_inj, iT0, iT1, iT2, iT3, iT4, iT5, iT6, iT7, iT8, iT9, iT10, iT11, iT12, iT13, iT14, iT15, iT16, iT19, iT20, iT31, iT32, iT42, iT64, iT200, iT318, iT319, iT1000, iTm1, iTm2] at c_196
                refine j_iconst (v := 0) X dX11_join_203 rfl ?_
                exact cut204 0 (by exact Or.inr ⟨by omega, rfl⟩)
              · skip
                first | simp only [cmp_eq, cmp_lt, cmp_ge, cmp_gt, cmp_le, lT0, lT1] at c_196 | simp only [Int32.le_iff_toInt_le, Int32.lt_iff_toInt_lt, ← Int32.toInt_inj, iT0, iT1, iT2, iT3, iT4, iT5, iT6, iT7, iT8, iT9, iT10, iT11, iT12, iT13, iT14, iT15, iT16, iT19, iT20, iT31, iT32, iT42, iT64, iT200, iT318, iT319, iT1000, iTm1, iTm2] at c_196
                refine j_iconst (v := 1) X dX11_join_199 rfl ?_
                refine j_goto (tgt := 204) X dX11_join_200 (by decide) ?_
                exact cut204 1 (by exact Or.inl ⟨by omega, rfl⟩)
        refine j_sub [5, 6, 7, 8, 3, 2, 1, 0] rfl ?_
        exact loop 21 0 0 0 (rg zs) (by omega) rfl (by rw [eP_0, iT0]; omega) (fun j hj => absurd hj (Nat.not_lt_zero j)) (fun k _ _ => rfl) (by omega)
    · skip
      refine j_iconst (v := 1) X dX11_join_29 rfl ?_
      refine j_goto (tgt := 34) X dX11_join_30 (by decide) ?_
      refine j_istore (L' := [(6, .int 1), (5, .int o), (0, .ref (q 0)), (1, .int r), (2, .int ra), (3, .int rb), (4, .int ls)]) X dX11_join_34 (by decide) rfl ?_
      refine j_iload X dX11_join_36 0 rfl ?_
      refine j_if_ne (tgt := 54) X dX11_join_38 (by decide) (fun _ => ?_) (fun c9 => absurd c9 (by decide))
      refine j_iconst (v := 0) X dX11_join_54 rfl ?_
      refine j_istore (L' := [(7, .int 0), (6, .int 1), (5, .int o), (0, .ref (q 0)), (1, .int r), (2, .int ra), (3, .int rb), (4, .int ls)]) X dX11_join_55 (by decide) rfl ?_
      refine j_aload_n X dX11_join_57 rfl 3 rfl ?_
      refine j_get (v := .ref (q 11)) X dX11_join_58 0 rfl 13 rfl in_X11_join_X11 (by decide) fl_X11_join_42 rfl ?_
      refine j_iload_n X dX11_join_61 rfl 4 rfl ?_
      refine j_iload X dX11_join_62 0 rfl ?_
      refine j_if_eq (tgt := 72) X dX11_join_64 (by decide) (fun _ => ?_) (fun c9 => absurd c9 (by decide))
      refine j_aload_n X dX11_join_72 rfl 3 rfl ?_
      refine j_get (v := .ref (q 11)) X dX11_join_73 0 rfl 13 rfl in_X11_join_X11 (by decide) fl_X11_join_42 rfl ?_
      refine j_iload_n X dX11_join_76 rfl 5 rfl ?_
      refine j_zald X dX11_join_77 2 rfl aa (i_nI haa (by omega)) (by omega) (by decide) ?_
      refine j_zast (ws' := [(q 0, .inr (10, mF t n q co cr po tx ty)), (q 10, aI G 320 (rg zs)), (q 11, aZ G 16 (upd sf dd (sf aa)))]) X dX11_join_78 2 rfl dd (i_nI hdd (by omega)) (by omega) (by decide) (ok1_01 hoka) rfl ?_
      refine j_iconst (v := 0) X dX11_join_79 rfl ?_
      refine j_istore (L' := [(8, .int 0), (7, .int 0), (6, .int 1), (5, .int o), (0, .ref (q 0)), (1, .int r), (2, .int ra), (3, .int rb), (4, .int ls)]) X dX11_join_80 (by decide) rfl ?_
      refine j_iconst (v := 0) X dX11_join_82 rfl ?_
      refine j_istore (L' := [(9, .int 0), (8, .int 0), (7, .int 0), (6, .int 1), (5, .int o), (0, .ref (q 0)), (1, .int r), (2, .int ra), (3, .int rb), (4, .int ls)]) X dX11_join_83 (by decide) rfl ?_
      have loop : ∀ (d : Nat) (i : Nat) (k c8 : Int32) (g : Nat → Int32) (hi : i ≤ 20) (hx : k.toInt = i) (hr1 : c8.toInt = (zA zs aa % eP i + zA zs bb % eP i) / eP i) (hg1 : ∀ j, j < i → g (20 * dd + j) = eg (zA zs aa + zA zs bb) j) (hg2 : ∀ k, k < 320 → k / 20 ≠ dd → g k = rg zs k), 20 - i < d → J p l e rm_X11_join s m args below meth c Q G A 13 0 0 85 [(0, .ref (q 0)), (1, .int r), (2, .int ra), (3, .int rb), (6, .int 1), (7, .int 0), (8, .int c8), (9, .int k)] [] [(q 0, .inr (10, mF t n q co cr po tx ty)), (q 10, aI G 320 g), (q 11, aZ G 16 (upd sf dd (sf aa)))] := by
        intro d
        induction d with
        | zero => intro i k c8 g hi hx hr1 hg1 hg2 hd0; exact absurd hd0 (Nat.not_lt_zero _)
        | succ d ih =>
          intro i k c8 g hi hx hr1 hg1 hg2 hd0
          refine j_iload X dX11_join_85 7 rfl ?_
          refine j_bipush (v := 20) X dX11_join_87 (by decide) ?_
          refine j_icmp_ge (tgt := 212) X dX11_join_89 (by decide) (fun c_89 => ?_) (fun c_89 => ?_)
          · skip
            first | simp only [cmp_eq, cmp_lt, cmp_ge, cmp_gt, cmp_le, lT0, lT1] at c_89 | simp only [Int32.le_iff_toInt_le, Int32.lt_iff_toInt_lt, ← Int32.toInt_inj, iT0, iT1, iT2, iT3, iT4, iT5, iT6, iT7, iT8, iT9, iT10, iT11, iT12, iT13, iT14, iT15, iT16, iT19, iT20, iT31, iT32, iT42, iT64, iT200, iT318, iT319, iT1000, iTm1, iTm2] at c_89
            have hJ := jn_A hoka hoko c_26
            rw [← jn_add, jn_abs] at hJ
            have hN : ((jn ls (zs.getD aa 0) (zs.getD bb 0)).natAbs : Int) = zA zs aa + zA zs bb := by rw [hJ.1]; unfold zA; omega
            refine j_setI (g := rg (zs.set dd (jn ls (zs.getD aa 0) (zs.getD bb 0)))) 1 rfl (rg_set hl gdd (fun j hj => by rw [hN]; exact hg1 j (by omega)) hg2) rfl ?_
            exact E.1 212 _ (sf aa) dX11_join_212 (⟨rfl, hJ.2⟩) hr
          · skip
            first | simp only [cmp_eq, cmp_lt, cmp_ge, cmp_gt, cmp_le, lT0, lT1] at c_89 | simp only [Int32.le_iff_toInt_le, Int32.lt_iff_toInt_lt, ← Int32.toInt_inj, iT0, iT1, iT2, iT3, iT4, iT5, iT6, iT7, iT8, iT9, iT10, iT11, iT12, iT13, iT14, iT15, iT16, iT19, iT20, iT31, iT32, iT42, iT64, iT200, iT318, iT319, iT1000, iTm1, iTm2] at c_89
            refine j_aload_n X dX11_join_92 rfl 0 rfl ?_
            refine j_get (v := .ref (q 10)) X dX11_join_93 0 rfl 12 rfl in_X11_join_X11 (by decide) fl_X11_join_39 rfl ?_
            refine j_bipush (v := 20) X dX11_join_96 (by decide) ?_
            refine j_iload X dX11_join_98 5 rfl ?_
            refine j_if_eq (tgt := 107) X dX11_join_100 (by decide) (fun _ => ?_) (fun c9 => absurd c9 (by decide))
            refine j_iload_n X dX11_join_107 rfl 2 rfl ?_
            refine j_imul X dX11_join_108 ?_
            refine j_iload X dX11_join_109 7 rfl ?_
            refine j_iadd X dX11_join_111 ?_
            refine j_iald X dX11_join_112 1 rfl (20 * aa + i) (i_nI (ix20 haa hx gaa (by omega)) (by omega)) (by omega) (by decide) ?_
            refine j_topi (fun x_11 ex_11 => ?_)
            refine j_istore (L' := [(10, .int x_11), (0, .ref (q 0)), (1, .int r), (2, .int ra), (3, .int rb), (6, .int 1), (7, .int 0), (8, .int c8), (9, .int k)]) X dX11_join_113 (by decide) rfl ?_
            refine j_aload_n X dX11_join_115 rfl 1 rfl ?_
            refine j_get (v := .ref (q 10)) X dX11_join_116 0 rfl 12 rfl in_X11_join_X11 (by decide) fl_X11_join_39 rfl ?_
            refine j_bipush (v := 20) X dX11_join_119 (by decide) ?_
            refine j_iload X dX11_join_121 6 rfl ?_
            refine j_if_eq (tgt := 130) X dX11_join_123 (by decide) (fun _ => ?_) (fun c9 => absurd c9 (by decide))
            refine j_iload_n X dX11_join_130 rfl 4 rfl ?_
            refine j_imul X dX11_join_131 ?_
            refine j_iload X dX11_join_132 8 rfl ?_
            refine j_iadd X dX11_join_134 ?_
            refine j_iald X dX11_join_135 1 rfl (20 * bb + i) (i_nI (ix20 hbb hx gbb (by omega)) (by omega)) (by omega) (by decide) ?_
            refine j_topi (fun x_12 ex_12 => ?_)
            refine j_istore (L' := [(11, .int x_12), (10, .int x_11), (0, .ref (q 0)), (1, .int r), (2, .int ra), (3, .int rb), (6, .int 1), (7, .int 0), (8, .int c8), (9, .int k)]) X dX11_join_136 (by decide) rfl ?_
            refine j_iload X dX11_join_138 6 rfl ?_
            refine j_if_eq (tgt := 154) X dX11_join_140 (by decide) (fun c9 => absurd c9 (by decide)) (fun _ => ?_)
            refine j_iload X dX11_join_143 1 rfl ?_
            refine j_iload X dX11_join_145 0 rfl ?_
            refine j_iadd X dX11_join_147 ?_
            refine j_iload X dX11_join_148 8 rfl ?_
            refine j_iadd X dX11_join_150 ?_
            refine j_goto (tgt := 162) X dX11_join_151 (by decide) ?_
            refine j_topi (fun x_13 ex_13 => ?_)
            refine j_istore (L' := [(12, .int x_13), (11, .int x_12), (10, .int x_11), (0, .ref (q 0)), (1, .int r), (2, .int ra), (3, .int rb), (6, .int 1), (7, .int 0), (8, .int c8), (9, .int k)]) X dX11_join_162 (by decide) rfl ?_
            refine j_aload_n X dX11_join_164 rfl 3 rfl ?_
            refine j_get (v := .ref (q 10)) X dX11_join_165 0 rfl 12 rfl in_X11_join_X11 (by decide) fl_X11_join_39 rfl ?_
            refine j_bipush (v := 20) X dX11_join_168 (by decide) ?_
            refine j_iload_n X dX11_join_170 rfl 4 rfl ?_
            refine j_imul X dX11_join_171 ?_
            refine j_iload X dX11_join_172 10 rfl ?_
            refine j_iadd X dX11_join_174 ?_
            refine j_iload X dX11_join_175 0 rfl ?_
            refine j_ldc (v := 65535) X dX11_join_177 k_X11_join_66 ?_
            refine j_iand X dX11_join_179 ?_
            refine j_topi (fun x_14 ex_14 => ?_)
            refine j_iast (ws' := [(q 0, .inr (10, mF t n q co cr po tx ty)), (q 10, aI G 320 (upd g (20 * dd + i) x_14)), (q 11, aZ G 16 (upd sf dd (sf aa)))]) X dX11_join_180 1 rfl (20 * dd + i) (i_nI (ix20 hdd hx gdd (by omega)) (by omega)) (by omega) (by decide) rfl ?_
            refine j_iload X dX11_join_181 7 rfl ?_
            refine j_if_eq (tgt := 194) X dX11_join_183 (by decide) (fun c9 => absurd c9 (by decide)) (fun _ => ?_)
            refine j_iload X dX11_join_186 0 rfl ?_
            refine j_bipush (v := 16) X dX11_join_188 (by decide) ?_
            refine j_ishr X dX11_join_190 ?_
            refine j_goto (tgt := 204) X dX11_join_191 (by decide) ?_
            refine j_topi (fun x_15 ex_15 => ?_)
            refine j_istore (L' := [(8, .int x_15), (12, .int x_13), (11, .int x_12), (10, .int x_11), (0, .ref (q 0)), (1, .int r), (2, .int ra), (3, .int rb), (6, .int 1), (7, .int 0), (9, .int k)]) X dX11_join_204 (by decide) rfl ?_
            obtain ⟨x_16, ex_16⟩ : ∃ y9 : Int32, y9 = k + 1 := ⟨_, rfl⟩
            refine j_iinc (v := x_16) (L' := [(9, .int x_16), (8, .int x_15), (12, .int x_13), (11, .int x_12), (10, .int x_11), (0, .ref (q 0)), (1, .int r), (2, .int ra), (3, .int rb), (6, .int 1), (7, .int 0)]) X dX11_join_206 10 rfl (by rw [ex_16]; rfl) (by decide) rfl ?_
            refine j_goto (tgt := 85) X dX11_join_209 (by decide) ?_
            refine j_sub [5, 6, 7, 8, 9, 10, 1, 0] rfl ?_
            exact ih (i + 1) x_16 x_15 (upd g (20 * dd + i) x_14) (by omega) (x_s hx (by omega) ex_16) (ej_c (ex_11.trans ((hg2 _ (by omega) (by omega)).trans (rg_at zs (by omega)))) (ex_12.trans ((hg2 _ (by omega) (by omega)).trans (rg_at zs (by omega)))) hr1 ex_13 ex_15) (r_step hg1 (ex_14.trans (ej_d (ex_11.trans ((hg2 _ (by omega) (by omega)).trans (rg_at zs (by omega)))) (ex_12.trans ((hg2 _ (by omega) (by omega)).trans (rg_at zs (by omega)))) hr1 ex_13))) (r_rest (by omega) hg2) (by omega)
      refine j_sub [5, 6, 7, 8, 3, 2, 1, 0] rfl ?_
      exact loop 21 0 0 0 (rg zs) (by omega) rfl (by rw [eP_0, iT0]; omega) (fun j hj => absurd hj (Nat.not_lt_zero j)) (fun k _ _ => rfl) (by omega)
  refine j_icmp_eq (tgt := 15) X dX11_join_8 (by decide) (fun c_8 => ?_) (fun c_8 => ?_)
  · skip
    refine j_iconst (v := 0) X dX11_join_15 rfl ?_
    exact cut16 0 (by exact Or.inr ⟨rfl, c_8⟩)
  · skip
    refine j_iconst (v := 1) X dX11_join_11 rfl ?_
    refine j_goto (tgt := 16) X dX11_join_12 (by decide) ?_
    exact cut16 1 (by exact Or.inl ⟨rfl, c_8⟩)

theorem hy_X11_join_V : yX11_join.cls = RX11 ∧ yX11_join.cls ≠ "java/lang/invoke/MethodHandle" ∧ yX11_join.cls ≠ "java/lang/invoke/VarHandle" ∧ (parseMethodDescriptor yX11_join.desc).map (fun d => d.parameters.length) = some 4 := by decide +kernel
abbrev rm_X11_multiply : Room := { frames := 0, cells := 0, slots := 0, locals := 0 }
theorem in_X11_multiply_X11 : ∀ w ∈ u_ws RX11 TX11 19, w ∈ wsX11_multiply := by decide +kernel
theorem fl_X11_multiply_42 : Cond.fieldLink RX11 42 (TX11 13).1 (TX11 13).2.1 (TX11 13).2.2.1 ∈ wsX11_multiply := by decide +kernel
theorem fl_X11_multiply_39 : Cond.fieldLink RX11 39 (TX11 12).1 (TX11 12).2.1 (TX11 12).2.2.1 ∈ wsX11_multiply := by decide +kernel
theorem k_X11_multiply_60 : Cond.constantLong RX11 60 (65535) ∈ wsX11_multiply := by decide +kernel
set_option maxHeartbeats 4000000 in
set_option maxRecDepth 100000 in
theorem c_X11_multiply (l : Launch) (G : jG) (q : Nat → Nat) (t n co cr po : Int32) (tx ty : Int64) (zs : List Int) (hl : zs.length = 16) (sf : Nat → Int32) (r : Int32) (dd : Nat) (hdd : r.toInt = dd) (gdd : dd < 16) (ra : Int32) (aa : Nat) (haa : ra.toInt = aa) (gaa : aa < 16) (rb : Int32) (bb : Nat) (hbb : rb.toInt = bb) (gbb : bb < 16) (hda : dd ≠ aa) (hdb : dd ≠ bb) : Ct l yX11_multiply wsX11_multiply rm_X11_multiply G [.ref (q 0), .int r, .int ra, .int rb] [(q 0, .inr (10, mF t n q co cr po tx ty)), (q 10, aI G 320 (rg zs)), (q 11, aZ G 16 sf)] (S := Int32) (fun r b => r = none ∧ ((b = 1 ∧ ¬ sf aa = sf bb) ∨ (b = 0 ∧ sf aa = sf bb))) (fun b => [(q 0, .inr (10, mF t n q co cr po tx ty)), (q 10, aI G 320 (rg (zs.set dd (zs.getD aa 0 * zs.getD bb 0)))), (q 11, aZ G 16 (upd sf dd b))]) (fun _ => []) := by
  refine c_intro (cc := cX11_multiply) (maxL := 10) (ret := none) (by decide) rfl (Nat.le_of_ble_eq_true rfl) (fun _ => by simp only [List.map_cons, List.map_nil]) ?_
  intro p e s m args below meth c Q A X hr hin E
  change J p l e rm_X11_multiply s m args below meth c Q G A 10 0 0 0 [(0, .ref (q 0)), (1, .int r), (2, .int ra), (3, .int rb)] [] [(q 0, .inr (10, mF t n q co cr po tx ty)), (q 10, aI G 320 (rg zs)), (q 11, aZ G 16 sf)]
  refine j_aload_n X dX11_multiply_0 rfl 0 rfl ?_
  refine j_get (v := .ref (q 11)) X dX11_multiply_1 0 rfl 13 rfl in_X11_multiply_X11 (by decide) fl_X11_multiply_42 rfl ?_
  refine j_iload_n X dX11_multiply_4 rfl 1 rfl ?_
  refine j_aload_n X dX11_multiply_5 rfl 0 rfl ?_
  refine j_get (v := .ref (q 11)) X dX11_multiply_6 0 rfl 13 rfl in_X11_multiply_X11 (by decide) fl_X11_multiply_42 rfl ?_
  refine j_iload_n X dX11_multiply_9 rfl 2 rfl ?_
  refine j_zald X dX11_multiply_10 2 rfl aa (i_nI haa (by omega)) (by omega) (by decide) ?_
  refine j_aload_n X dX11_multiply_11 rfl 0 rfl ?_
  refine j_get (v := .ref (q 11)) X dX11_multiply_12 0 rfl 13 rfl in_X11_multiply_X11 (by decide) fl_X11_multiply_42 rfl ?_
  refine j_iload_n X dX11_multiply_15 rfl 3 rfl ?_
  refine j_zald X dX11_multiply_16 2 rfl bb (i_nI hbb (by omega)) (by omega) (by decide) ?_
  have cut25 : ∀ (b : Int32) (hb : (b = 1 ∧ ¬ sf aa = sf bb) ∨ (b = 0 ∧ sf aa = sf bb)), J p l e rm_X11_multiply s m args below meth c Q G A 10 0 0 25 [(0, .ref (q 0)), (1, .int r), (2, .int ra), (3, .int rb)] [.int b, .int r, .ref (q 11)] [(q 0, .inr (10, mF t n q co cr po tx ty)), (q 10, aI G 320 (rg zs)), (q 11, aZ G 16 sf)] := by
    intro b hb
    refine j_zast (ws' := [(q 0, .inr (10, mF t n q co cr po tx ty)), (q 10, aI G 320 (rg zs)), (q 11, aZ G 16 (upd sf dd b))]) X dX11_multiply_25 2 rfl dd (i_nI hdd (by omega)) (by omega) (by decide) (mb_01 hb) rfl ?_
    refine j_iconst (v := 0) X dX11_multiply_26 rfl ?_
    refine j_istore (L' := [(4, .int 0), (0, .ref (q 0)), (1, .int r), (2, .int ra), (3, .int rb)]) X dX11_multiply_27 (by decide) rfl ?_
    have loop : ∀ (d : Nat) (i : Nat) (k : Int32) (g : Nat → Int32) (hi : i ≤ 20) (hx : k.toInt = i) (hg1 : ∀ j, j < i → g (20 * dd + j) = eg 0 j) (hg2 : ∀ k, k < 320 → k / 20 ≠ dd → g k = rg zs k), 20 - i < d → J p l e rm_X11_multiply s m args below meth c Q G A 10 0 0 29 [(0, .ref (q 0)), (1, .int r), (2, .int ra), (3, .int rb), (4, .int k)] [] [(q 0, .inr (10, mF t n q co cr po tx ty)), (q 10, aI G 320 g), (q 11, aZ G 16 (upd sf dd b))] := by
      intro d
      induction d with
      | zero => intro i k g hi hx hg1 hg2 hd0; exact absurd hd0 (Nat.not_lt_zero _)
      | succ d ih =>
        intro i k g hi hx hg1 hg2 hd0
        refine j_iload X dX11_multiply_29 4 rfl ?_
        refine j_bipush (v := 20) X dX11_multiply_31 (by decide) ?_
        refine j_icmp_ge (tgt := 55) X dX11_multiply_33 (by decide) (fun c_33 => ?_) (fun c_33 => ?_)
        · skip
          first | simp only [cmp_eq, cmp_lt, cmp_ge, cmp_gt, cmp_le, lT0, lT1] at c_33 | simp only [Int32.le_iff_toInt_le, Int32.lt_iff_toInt_lt, ← Int32.toInt_inj, iT0, iT1, iT2, iT3, iT4, iT5, iT6, iT7, iT8, iT9, iT10, iT11, iT12, iT13, iT14, iT15, iT16, iT19, iT20, iT31, iT32, iT42, iT64, iT200, iT318, iT319, iT1000, iTm1, iTm2] at c_33
          refine j_iconst (v := 0) X dX11_multiply_55 rfl ?_
          refine j_istore (L' := [(4, .int 0), (0, .ref (q 0)), (1, .int r), (2, .int ra), (3, .int rb)]) X dX11_multiply_56 (by decide) rfl ?_
          have loop2 : ∀ (d2 : Nat) (i : Nat) (k : Int32) (g : Nat → Int32) (hi : i ≤ 20) (hx : k.toInt = i) (hg1 : ∀ j, j < 20 → g (20 * dd + j) = eg (zA zs aa % eP i * zA zs bb) j) (hg2 : ∀ k, k < 320 → k / 20 ≠ dd → g k = rg zs k), 20 - i < d2 → J p l e rm_X11_multiply s m args below meth c Q G A 10 0 0 58 [(0, .ref (q 0)), (1, .int r), (2, .int ra), (3, .int rb), (4, .int k)] [] [(q 0, .inr (10, mF t n q co cr po tx ty)), (q 10, aI G 320 g), (q 11, aZ G 16 (upd sf dd b))] := by
            intro d2
            induction d2 with
            | zero => intro i k g hi hx hg1 hg2 hd02; exact absurd hd02 (Nat.not_lt_zero _)
            | succ d2 ih2 =>
              intro i k g hi hx hg1 hg2 hd02
              refine j_iload X dX11_multiply_58 4 rfl ?_
              refine j_bipush (v := 20) X dX11_multiply_60 (by decide) ?_
              refine j_icmp_ge (tgt := 189) X dX11_multiply_62 (by decide) (fun c_62 => ?_) (fun c_62 => ?_)
              · skip
                first | simp only [cmp_eq, cmp_lt, cmp_ge, cmp_gt, cmp_le, lT0, lT1] at c_62 | simp only [Int32.le_iff_toInt_le, Int32.lt_iff_toInt_lt, ← Int32.toInt_inj, iT0, iT1, iT2, iT3, iT4, iT5, iT6, iT7, iT8, iT9, iT10, iT11, iT12, iT13, iT14, iT15, iT16, iT19, iT20, iT31, iT32, iT42, iT64, iT200, iT318, iT319, iT1000, iTm1, iTm2] at c_62
                have h8 : i = 20 := by omega
                subst h8
                have hN : ((zs.getD aa 0 * zs.getD bb 0).natAbs : Int) = zA zs aa * zA zs bb := by unfold zA; rw [Int.natAbs_mul, Int.natCast_mul]
                refine j_setI (g := rg (zs.set dd (zs.getD aa 0 * zs.getD bb 0))) 1 rfl (rg_set hl gdd (fun j hj => by rw [hN, ← em_fin j hj]; exact hg1 j hj) hg2) rfl ?_
                exact E.1 189 _ b dX11_multiply_189 (⟨rfl, hb⟩) hr
              · skip
                first | simp only [cmp_eq, cmp_lt, cmp_ge, cmp_gt, cmp_le, lT0, lT1] at c_62 | simp only [Int32.le_iff_toInt_le, Int32.lt_iff_toInt_lt, ← Int32.toInt_inj, iT0, iT1, iT2, iT3, iT4, iT5, iT6, iT7, iT8, iT9, iT10, iT11, iT12, iT13, iT14, iT15, iT16, iT19, iT20, iT31, iT32, iT42, iT64, iT200, iT318, iT319, iT1000, iTm1, iTm2] at c_62
                refine j_aload_n X dX11_multiply_65 rfl 0 rfl ?_
                refine j_get (v := .ref (q 10)) X dX11_multiply_66 0 rfl 12 rfl in_X11_multiply_X11 (by decide) fl_X11_multiply_39 rfl ?_
                refine j_bipush (v := 20) X dX11_multiply_69 (by decide) ?_
                refine j_iload_n X dX11_multiply_71 rfl 2 rfl ?_
                refine j_imul X dX11_multiply_72 ?_
                refine j_iload X dX11_multiply_73 4 rfl ?_
                refine j_iadd X dX11_multiply_75 ?_
                refine j_iald X dX11_multiply_76 1 rfl (20 * aa + i) (i_nI (ix20 haa hx gaa (by omega)) (by omega)) (by omega) (by decide) ?_
                refine j_if_ne (tgt := 83) X dX11_multiply_77 (by decide) (fun c_77 => ?_) (fun c_77 => ?_)
                · skip
                  first | simp only [cmp_eq, cmp_lt, cmp_ge, cmp_gt, cmp_le, lT0, lT1] at c_77 | simp only [Int32.le_iff_toInt_le, Int32.lt_iff_toInt_lt, ← Int32.toInt_inj, iT0, iT1, iT2, iT3, iT4, iT5, iT6, iT7, iT8, iT9, iT10, iT11, iT12, iT13, iT14, iT15, iT16, iT19, iT20, iT31, iT32, iT42, iT64, iT200, iT318, iT319, iT1000, iTm1, iTm2] at c_77
                  refine j_lconst (v := 0) X dX11_multiply_83 rfl ?_
                  refine j_lstore (L' := [(5, .long 0), (0, .ref (q 0)), (1, .int r), (2, .int ra), (3, .int rb), (4, .int k)]) X dX11_multiply_84 (by decide) rfl ?_
                  refine j_iconst (v := 0) X dX11_multiply_86 rfl ?_
                  refine j_istore (L' := [(7, .int 0), (5, .long 0), (0, .ref (q 0)), (1, .int r), (2, .int ra), (3, .int rb), (4, .int k)]) X dX11_multiply_87 (by decide) rfl ?_
                  have loop3 : ∀ (d3 : Nat) (j : Nat) (u : Int32) (r5 : Int64) (g3 : Nat → Int32) (hj : i + j ≤ 20) (hu : u.toInt = j) (hr1 : r5.toInt = (zA zs aa % eP i * zA zs bb / eP i % eP j + zA zs aa / eP i % 65536 * (zA zs bb % eP j)) / eP j) (hg5 : ∀ k, k < i + j → g3 (20 * dd + k) = eg (zA zs aa % eP (i + 1) * zA zs bb) k) (hg6 : ∀ k, i + j ≤ k → k < 20 → g3 (20 * dd + k) = eg (zA zs aa % eP i * zA zs bb) k) (hg3 : ∀ k, k < 320 → k / 20 ≠ dd → g3 k = rg zs k), 20 - j < d3 → J p l e rm_X11_multiply s m args below meth c Q G A 10 0 0 89 [(0, .ref (q 0)), (1, .int r), (2, .int ra), (3, .int rb), (4, .int k), (5, .long r5), (7, .int u)] [] [(q 0, .inr (10, mF t n q co cr po tx ty)), (q 10, aI G 320 g3), (q 11, aZ G 16 (upd sf dd b))] := by
                    intro d3
                    induction d3 with
                    | zero => intro j u r5 g3 hj hu hr1 hg5 hg6 hg3 hd03; exact absurd hd03 (Nat.not_lt_zero _)
                    | succ d3 ih3 =>
                      intro j u r5 g3 hj hu hr1 hg5 hg6 hg3 hd03
                      refine j_iload X dX11_multiply_89 4 rfl ?_
                      refine j_iload X dX11_multiply_91 6 rfl ?_
                      refine j_iadd X dX11_multiply_93 ?_
                      refine j_bipush (v := 20) X dX11_multiply_94 (by decide) ?_
                      refine j_icmp_ge (tgt := 183) X dX11_multiply_96 (by decide) (fun c_96 => ?_) (fun c_96 => ?_)
                      · skip
                        first | simp only [cmp_eq, cmp_lt, cmp_ge, cmp_gt, cmp_le, lT0, lT1] at c_96 | simp only [Int32.le_iff_toInt_le, Int32.lt_iff_toInt_lt, ← Int32.toInt_inj, iT0, iT1, iT2, iT3, iT4, iT5, iT6, iT7, iT8, iT9, iT10, iT11, iT12, iT13, iT14, iT15, iT16, iT19, iT20, iT31, iT32, iT42, iT64, iT200, iT318, iT319, iT1000, iTm1, iTm2] at c_96
                        rw [x_add hx hu (by omega)] at c_96
                        have hfin := em_end hg5 (by omega)
                        have hg2 := hg3
                        obtain ⟨x_1, ex_1⟩ : ∃ y9 : Int32, y9 = k + 1 := ⟨_, rfl⟩
                        refine j_iinc (v := x_1) (L' := [(4, .int x_1), (0, .ref (q 0)), (1, .int r), (2, .int ra), (3, .int rb), (5, .long r5), (7, .int u)]) X dX11_multiply_183 4 rfl (by rw [ex_1]; rfl) (by decide) rfl ?_
                        refine j_goto (tgt := 58) X dX11_multiply_186 (by decide) ?_
                        refine j_sub [1, 2, 3, 4, 0] rfl ?_
                        exact ih2 (i + 1) x_1 (g3) (by omega) (x_s hx (by omega) ex_1) hfin hg2 (by omega)
                      · skip
                        first | simp only [cmp_eq, cmp_lt, cmp_ge, cmp_gt, cmp_le, lT0, lT1] at c_96 | simp only [Int32.le_iff_toInt_le, Int32.lt_iff_toInt_lt, ← Int32.toInt_inj, iT0, iT1, iT2, iT3, iT4, iT5, iT6, iT7, iT8, iT9, iT10, iT11, iT12, iT13, iT14, iT15, iT16, iT19, iT20, iT31, iT32, iT42, iT64, iT200, iT318, iT319, iT1000, iTm1, iTm2] at c_96
                        rw [x_add hx hu (by omega)] at c_96
                        refine j_aload_n X dX11_multiply_99 rfl 0 rfl ?_
                        refine j_get (v := .ref (q 10)) X dX11_multiply_100 0 rfl 12 rfl in_X11_multiply_X11 (by decide) fl_X11_multiply_39 rfl ?_
                        refine j_bipush (v := 20) X dX11_multiply_103 (by decide) ?_
                        refine j_iload_n X dX11_multiply_105 rfl 1 rfl ?_
                        refine j_imul X dX11_multiply_106 ?_
                        refine j_iload X dX11_multiply_107 4 rfl ?_
                        refine j_iadd X dX11_multiply_109 ?_
                        refine j_iload X dX11_multiply_110 6 rfl ?_
                        refine j_iadd X dX11_multiply_112 ?_
                        refine j_iald X dX11_multiply_113 1 rfl (20 * dd + (i + j)) (i_nI (ix20b hdd hx hu gdd (by omega)) (by omega)) (by omega) (by decide) ?_
                        refine j_i2l X dX11_multiply_114 rfl ?_
                        refine j_aload_n X dX11_multiply_115 rfl 0 rfl ?_
                        refine j_get (v := .ref (q 10)) X dX11_multiply_116 0 rfl 12 rfl in_X11_multiply_X11 (by decide) fl_X11_multiply_39 rfl ?_
                        refine j_bipush (v := 20) X dX11_multiply_119 (by decide) ?_
                        refine j_iload_n X dX11_multiply_121 rfl 2 rfl ?_
                        refine j_imul X dX11_multiply_122 ?_
                        refine j_iload X dX11_multiply_123 4 rfl ?_
                        refine j_iadd X dX11_multiply_125 ?_
                        refine j_iald X dX11_multiply_126 1 rfl (20 * aa + i) (i_nI (ix20 haa hx gaa (by omega)) (by omega)) (by omega) (by decide) ?_
                        refine j_i2l X dX11_multiply_127 rfl ?_
                        refine j_aload_n X dX11_multiply_128 rfl 0 rfl ?_
                        refine j_get (v := .ref (q 10)) X dX11_multiply_129 0 rfl 12 rfl in_X11_multiply_X11 (by decide) fl_X11_multiply_39 rfl ?_
                        refine j_bipush (v := 20) X dX11_multiply_132 (by decide) ?_
                        refine j_iload_n X dX11_multiply_134 rfl 3 rfl ?_
                        refine j_imul X dX11_multiply_135 ?_
                        refine j_iload X dX11_multiply_136 6 rfl ?_
                        refine j_iadd X dX11_multiply_138 ?_
                        refine j_iald X dX11_multiply_139 1 rfl (20 * bb + j) (i_nI (ix20 hbb hu gbb (by omega)) (by omega)) (by omega) (by decide) ?_
                        refine j_i2l X dX11_multiply_140 rfl ?_
                        refine j_lmul X dX11_multiply_141 ?_
                        refine j_ladd X dX11_multiply_142 ?_
                        refine j_lload X dX11_multiply_143 5 rfl ?_
                        refine j_ladd X dX11_multiply_145 ?_
                        refine j_topl (fun x_2 ex_2 => ?_)
                        refine j_lstore (L' := [(8, .long x_2), (0, .ref (q 0)), (1, .int r), (2, .int ra), (3, .int rb), (4, .int k), (5, .long r5), (7, .int u)]) X dX11_multiply_146 (by decide) rfl ?_
                        refine j_aload_n X dX11_multiply_148 rfl 1 rfl ?_
                        refine j_get (v := .ref (q 10)) X dX11_multiply_149 0 rfl 12 rfl in_X11_multiply_X11 (by decide) fl_X11_multiply_39 rfl ?_
                        refine j_bipush (v := 20) X dX11_multiply_152 (by decide) ?_
                        refine j_iload_n X dX11_multiply_154 rfl 2 rfl ?_
                        refine j_imul X dX11_multiply_155 ?_
                        refine j_iload X dX11_multiply_156 5 rfl ?_
                        refine j_iadd X dX11_multiply_158 ?_
                        refine j_iload X dX11_multiply_159 7 rfl ?_
                        refine j_iadd X dX11_multiply_161 ?_
                        refine j_lload X dX11_multiply_162 0 rfl ?_
                        refine j_ldc2 (v := 65535) X dX11_multiply_164 k_X11_multiply_60 ?_
                        refine j_land X dX11_multiply_167 ?_
                        refine j_l2i X dX11_multiply_168 rfl ?_
                        refine j_topi (fun x_3 ex_3 => ?_)
                        refine j_iast (ws' := [(q 0, .inr (10, mF t n q co cr po tx ty)), (q 10, aI G 320 (upd g3 (20 * dd + (i + j)) x_3)), (q 11, aZ G 16 (upd sf dd b))]) X dX11_multiply_169 1 rfl (20 * dd + (i + j)) (i_nI (ix20b hdd hx hu gdd (by omega)) (by omega)) (by omega) (by decide) rfl ?_
                        refine j_lload X dX11_multiply_170 0 rfl ?_
                        refine j_bipush (v := 16) X dX11_multiply_172 (by decide) ?_
                        obtain ⟨x_4, ex_4⟩ : ∃ z9 : Int64, x_2 >>> ((16 : Int32).toInt64 &&& 63) = z9 := ⟨_, rfl⟩
                        refine j_lshr (v := x_4) X dX11_multiply_174 ex_4 ?_
                        refine j_lstore (L' := [(5, .long x_4), (8, .long x_2), (0, .ref (q 0)), (1, .int r), (2, .int ra), (3, .int rb), (4, .int k), (7, .int u)]) X dX11_multiply_175 (by decide) rfl ?_
                        obtain ⟨x_5, ex_5⟩ : ∃ y9 : Int32, y9 = u + 1 := ⟨_, rfl⟩
                        refine j_iinc (v := x_5) (L' := [(7, .int x_5), (5, .long x_4), (8, .long x_2), (0, .ref (q 0)), (1, .int r), (2, .int ra), (3, .int rb), (4, .int k)]) X dX11_multiply_177 7 rfl (by rw [ex_5]; rfl) (by decide) rfl ?_
                        refine j_goto (tgt := 89) X dX11_multiply_180 (by decide) ?_
                        refine j_sub [3, 4, 5, 6, 7, 1, 0] rfl ?_
                        exact ih3 (j + 1) x_5 x_4 (upd g3 (20 * dd + (i + j)) x_3) (by omega) (x_s hu (by omega) ex_5) (em_car ((hg3 _ (by omega) (by omega)).trans (rg_at zs (by omega))) ((hg3 _ (by omega) (by omega)).trans (rg_at zs (by omega))) (hg6 (i + j) (Nat.le_refl _) (by omega)) hr1 ex_2 ex_4) (em_st1 hg5 (ex_3.trans (em_dig ((hg3 _ (by omega) (by omega)).trans (rg_at zs (by omega))) ((hg3 _ (by omega) (by omega)).trans (rg_at zs (by omega))) (hg6 (i + j) (Nat.le_refl _) (by omega)) hr1 ex_2))) (em_st2 hg6) (r_rest (by omega) hg3) (by omega)
                  refine j_sub [2, 3, 4, 5, 6, 1, 0] rfl ?_
                  exact loop3 21 0 0 0 g (by omega) rfl em_r0 (em_beg hg1 (by omega)) (fun k _ h8 => hg1 k h8) hg2 (by omega)
                · skip
                  first | simp only [cmp_eq, cmp_lt, cmp_ge, cmp_gt, cmp_le, lT0, lT1] at c_77 | simp only [Int32.le_iff_toInt_le, Int32.lt_iff_toInt_lt, ← Int32.toInt_inj, iT0, iT1, iT2, iT3, iT4, iT5, iT6, iT7, iT8, iT9, iT10, iT11, iT12, iT13, iT14, iT15, iT16, iT19, iT20, iT31, iT32, iT42, iT64, iT200, iT318, iT319, iT1000, iTm1, iTm2] at c_77
                  have hfin := em_skip hg1 ((hg2 _ (by omega) (by omega)).trans (rg_at zs (by omega))) c_77
                  refine j_goto (tgt := 183) X dX11_multiply_80 (by decide) ?_
                  obtain ⟨x_6, ex_6⟩ : ∃ y9 : Int32, y9 = k + 1 := ⟨_, rfl⟩
                  refine j_iinc (v := x_6) (L' := [(4, .int x_6), (0, .ref (q 0)), (1, .int r), (2, .int ra), (3, .int rb)]) X dX11_multiply_183 4 rfl (by rw [ex_6]; rfl) (by decide) rfl ?_
                  refine j_goto (tgt := 58) X dX11_multiply_186 (by decide) ?_
                  refine j_sub [1, 2, 3, 4, 0] rfl ?_
                  exact ih2 (i + 1) x_6 (g) (by omega) (x_s hx (by omega) ex_6) hfin hg2 (by omega)
          refine j_sub [1, 2, 3, 4, 0] rfl ?_
          exact loop2 21 0 0 g (by omega) rfl (fun j hj => by rw [hg1 j (by omega), eP_0, Int.emod_one, Int.zero_mul]) hg2 (by omega)
        · skip
          first | simp only [cmp_eq, cmp_lt, cmp_ge, cmp_gt, cmp_le, lT0, lT1] at c_33 | simp only [Int32.le_iff_toInt_le, Int32.lt_iff_toInt_lt, ← Int32.toInt_inj, iT0, iT1, iT2, iT3, iT4, iT5, iT6, iT7, iT8, iT9, iT10, iT11, iT12, iT13, iT14, iT15, iT16, iT19, iT20, iT31, iT32, iT42, iT64, iT200, iT318, iT319, iT1000, iTm1, iTm2] at c_33
          refine j_aload_n X dX11_multiply_36 rfl 0 rfl ?_
          refine j_get (v := .ref (q 10)) X dX11_multiply_37 0 rfl 12 rfl in_X11_multiply_X11 (by decide) fl_X11_multiply_39 rfl ?_
          refine j_bipush (v := 20) X dX11_multiply_40 (by decide) ?_
          refine j_iload_n X dX11_multiply_42 rfl 1 rfl ?_
          refine j_imul X dX11_multiply_43 ?_
          refine j_iload X dX11_multiply_44 4 rfl ?_
          refine j_iadd X dX11_multiply_46 ?_
          refine j_iconst (v := 0) X dX11_multiply_47 rfl ?_
          refine j_iast (ws' := [(q 0, .inr (10, mF t n q co cr po tx ty)), (q 10, aI G 320 (upd g (20 * dd + i) 0)), (q 11, aZ G 16 (upd sf dd b))]) X dX11_multiply_48 1 rfl (20 * dd + i) (i_nI (ix20 hdd hx gdd (by omega)) (by omega)) (by omega) (by decide) rfl ?_
          obtain ⟨x_7, ex_7⟩ : ∃ y9 : Int32, y9 = k + 1 := ⟨_, rfl⟩
          refine j_iinc (v := x_7) (L' := [(4, .int x_7), (0, .ref (q 0)), (1, .int r), (2, .int ra), (3, .int rb)]) X dX11_multiply_49 4 rfl (by rw [ex_7]; rfl) (by decide) rfl ?_
          refine j_goto (tgt := 29) X dX11_multiply_52 (by decide) ?_
          refine j_sub [1, 2, 3, 4, 0] rfl ?_
          exact ih (i + 1) x_7 (upd g (20 * dd + i) 0) (by omega) (x_s hx (by omega) ex_7) (r_step hg1 (eg_0 i)) (r_rest (by omega) hg2) (by omega)
    refine j_sub [1, 2, 3, 4, 0] rfl ?_
    exact loop 21 0 0 (rg zs) (by omega) rfl (fun j hj => absurd hj (Nat.not_lt_zero j)) (fun k _ _ => rfl) (by omega)
  refine j_icmp_eq (tgt := 24) X dX11_multiply_17 (by decide) (fun c_17 => ?_) (fun c_17 => ?_)
  · skip
    refine j_iconst (v := 0) X dX11_multiply_24 rfl ?_
    exact cut25 0 (by exact Or.inr ⟨rfl, c_17⟩)
  · skip
    refine j_iconst (v := 1) X dX11_multiply_20 rfl ?_
    refine j_goto (tgt := 25) X dX11_multiply_21 (by decide) ?_
    exact cut25 1 (by exact Or.inl ⟨rfl, c_17⟩)

theorem hy_X11_multiply_V : yX11_multiply.cls = RX11 ∧ yX11_multiply.cls ≠ "java/lang/invoke/MethodHandle" ∧ yX11_multiply.cls ≠ "java/lang/invoke/VarHandle" ∧ (parseMethodDescriptor yX11_multiply.desc).map (fun d => d.parameters.length) = some 3 := by decide +kernel
