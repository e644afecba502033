/-! one step of the plan, on both sides -/
noncomputable def cT (lo hi : Int32) (b : V6) : Option V6 := (sX6_readSign b (58 : Int32)).bind (fun o7 => ((sX6_readNumber o7 (1 : Int32) (20 : Int32)).bind (fun o8 => ((sX6_readSign o8.2 (59 : Int32)).bind (fun o9 => (if o9.2.2.2 = (-1 : Int32) then ((sX5_add o9.2.1 lo hi o8.1).bind (fun o11 => (some (o9.1, o11, o9.2.2.1, o9.2.2.2)))) else (some o9)))))))
theorem rs_no {v : V6} {o2 : Int32 × V6} {c : Int32} (hk : v.2.1.2.1 < (12 : Int32)) (e1 : sX6_readNumber v (0 : Int32) (31 : Int32) = some o2) (e2 : sX0_byteAt o2.2.1 o2.2.2.2.1 = some c) (hc : ¬ c = (45 : Int32)) : sX6_readStep v = cT o2.1 o2.1 o2.2 := by
  simp only [sX6_readStep, if_pos hk, e1, e2, if_neg hc, Option.bind_some]
  rfl
theorem rs_yes {v : V6} {o2 o13 : Int32 × V6} {c : Int32} (hk : v.2.1.2.1 < (12 : Int32)) (e1 : sX6_readNumber v (0 : Int32) (31 : Int32) = some o2) (e2 : sX0_byteAt o2.2.1 o2.2.2.2.1 = some c) (hc : c = (45 : Int32)) (e3 : sX6_readNumber (o2.2.1, o2.2.2.1, (o2.2.2.2.1 + (1 : Int32)), o2.2.2.2.2) o2.1 (31 : Int32) = some o13) : sX6_readStep v = cT o2.1 o13.1 o13.2 := by
  simp only [sX6_readStep, if_pos hk, e1, e2, if_pos hc, e3, Option.bind_some]
  rfl
noncomputable def mT (N : Nat) (lo hi : Int32) (w : V11) : Option (Int32 × V11) := (sX11_passes w (58 : Int32)).bind (fun o6 => (if o6.1 = 0 then (some ((0 : Int32), o6.2)) else ((sX11_number N o6.2 (1 : Int32) (20 : Int32)).bind (fun o8 => (if o8.1 = (-1 : Int32) then (some ((0 : Int32), o8.2)) else ((sX11_passes o8.2 (59 : Int32)).bind (fun o10 => (if o10.1 = 0 then (some ((0 : Int32), o10.2)) else (grd (vp_in ((3 : Int32) * o10.2.2.2.2.2.2.2.2.2.1) o10.2.2.2.2.2.2.2.2.1.1) (lt_ (upd o10.2.2.2.2.2.2.2.2.1.2 ((3 : Int32) * o10.2.2.2.2.2.2.2.2.2.1).toNatClampNeg lo) (fun f13 => (grd (vp_in (((3 : Int32) * o10.2.2.2.2.2.2.2.2.2.1) + (1 : Int32)) o10.2.2.2.2.2.2.2.2.1.1) (lt_ (upd f13 (((3 : Int32) * o10.2.2.2.2.2.2.2.2.2.1) + (1 : Int32)).toNatClampNeg hi) (fun f15 => (grd (vp_in (((3 : Int32) * o10.2.2.2.2.2.2.2.2.2.1) + (2 : Int32)) o10.2.2.2.2.2.2.2.2.1.1) (lt_ (upd f15 (((3 : Int32) * o10.2.2.2.2.2.2.2.2.2.1) + (2 : Int32)).toNatClampNeg o8.1) (fun f17 => (some ((1 : Int32), (o10.2.1, o10.2.2.1, o10.2.2.2.1, o10.2.2.2.2.1, o10.2.2.2.2.2.1, o10.2.2.2.2.2.2.1, o10.2.2.2.2.2.2.2.1, (o10.2.2.2.2.2.2.2.2.1.1, f17), (o10.2.2.2.2.2.2.2.2.2.1 + (1 : Int32)), o10.2.2.2.2.2.2.2.2.2.2.1, o10.2.2.2.2.2.2.2.2.2.2.2.1, o10.2.2.2.2.2.2.2.2.2.2.2.2.1, o10.2.2.2.2.2.2.2.2.2.2.2.2.2.1, o10.2.2.2.2.2.2.2.2.2.2.2.2.2.2))))))))))))))))))))
section MS
variable {N : Nat} {v : V11} {o2 o4 o18 : Int32 × V11}
theorem ms_fail (hk : ¬ v.2.2.2.2.2.2.2.2.1 = (12 : Int32)) (e1 : sX11_number N v (0 : Int32) (31 : Int32) = some o2) (h : o2.1 = (-1 : Int32)) : sX11_readsStep N v = some (0, o2.2) := by
  simp only [sX11_readsStep, if_neg hk, e1, if_pos h, Option.bind_some]
theorem ms_no (hk : ¬ v.2.2.2.2.2.2.2.2.1 = (12 : Int32)) (e1 : sX11_number N v (0 : Int32) (31 : Int32) = some o2) (h : ¬ o2.1 = (-1 : Int32)) (e2 : sX11_passes o2.2 (45 : Int32) = some o4) (h0 : o4.1 = 0) : sX11_readsStep N v = mT N o2.1 o2.1 o4.2 := by
  simp only [sX11_readsStep, if_neg hk, e1, if_neg h, e2, if_pos h0, Option.bind_some]
  rfl
theorem ms_yf (hk : ¬ v.2.2.2.2.2.2.2.2.1 = (12 : Int32)) (e1 : sX11_number N v (0 : Int32) (31 : Int32) = some o2) (h : ¬ o2.1 = (-1 : Int32)) (e2 : sX11_passes o2.2 (45 : Int32) = some o4) (h0 : ¬ o4.1 = 0) (e3 : sX11_number N o4.2 o2.1 (31 : Int32) = some o18) (h1 : o18.1 = (-1 : Int32)) : sX11_readsStep N v = some (0, o18.2) := by
  simp only [sX11_readsStep, if_neg hk, e1, if_neg h, e2, if_neg h0, e3, if_pos h1, Option.bind_some]
theorem ms_yes (hk : ¬ v.2.2.2.2.2.2.2.2.1 = (12 : Int32)) (e1 : sX11_number N v (0 : Int32) (31 : Int32) = some o2) (h : ¬ o2.1 = (-1 : Int32)) (e2 : sX11_passes o2.2 (45 : Int32) = some o4) (h0 : ¬ o4.1 = 0) (e3 : sX11_number N o4.2 o2.1 (31 : Int32) = some o18) (h1 : ¬ o18.1 = (-1 : Int32)) : sX11_readsStep N v = mT N o2.1 o18.1 o18.2 := by
  simp only [sX11_readsStep, if_neg hk, e1, if_neg h, e2, if_neg h0, e3, if_neg h1, Option.bind_some]
  rfl
theorem ms_12a {x y : Int32} (hk : v.2.2.2.2.2.2.2.2.1 = (12 : Int32)) (e1 : sX11_here v = some x) (e2 : sX11_isFigure x = some y) (hy : ¬ y = 0) : sX11_readsStep N v = some (0, v) := by
  simp only [sX11_readsStep, if_pos hk, e1, e2, if_neg hy, Option.bind_some]
theorem ms_12b {x y : Int32} (hk : v.2.2.2.2.2.2.2.2.1 = (12 : Int32)) (e1 : sX11_here v = some x) (e2 : sX11_isFigure x = some y) (hy : y = 0) (e3 : sX11_number N v (0 : Int32) (31 : Int32) = some o2) (h : o2.1 = (-1 : Int32)) : sX11_readsStep N v = some (0, o2.2) := by
  simp only [sX11_readsStep, if_pos hk, e1, e2, if_pos hy, e3, if_pos h, Option.bind_some]
end MS
section PT
variable {f tx g sv bf : Nat → Int32} {L n2 n5 : Nat} {sm thr so wr fo la : Int32}
theorem cT_err (h : TXT f tx L) {i q : Nat} (hi : i ≤ L) (hq : q ≤ 200) (dr : V5) : ∃ i', i' ≤ L ∧ ∀ lo hh, cT lo hh (((100, f), nI L), dr, nI i, nI q) = some (((100, f), nI L), dr, nI i', nI q) := by
  obtain ⟨i1, h1, e1⟩ := c_sgnT h hi hq (show 58 < 128 by decide) dr
  obtain ⟨v2, i2, h2, e2⟩ := c_numT h h1 hq (nI 1) (nI 20) dr
  obtain ⟨i3, h3, e3⟩ := c_sgnT h h2 hq (show 59 < 128 by decide) dr
  refine ⟨i3, h3, fun lo hh => ?_⟩
  simp (disch := omega) only [cT, e1, e2, e3, ↓reduceIte, e_lt, e_bd, e_grd, e_clamp, e_l0, e_l1, e_l2, e_l3, e_l4, e_l5, e_l6, e_l7, e_l8, e_l9, e_l10, e_l12, e_l13, e_l20, e_l31, e_l32, e_l45, e_l48, e_l50, e_l57, e_l58, e_l59, e_l64, e_l70, e_l100, e_l106, e_l127, e_l138, e_l554, e_l799, e_l804, e_l1000, e_l2000, e_l2412, e_l100000, e_m1, nI_add, ni_mul, ni_sub, nI_clamp, e_ltT, e_ltF, e_leT, e_leF, e_eqT, e_eqF, e_mE, e_Em, e_mlt, e_mle, e_ltm, e_lem, e_gz, e_gt, e_bs, ite_self, e_el, e_er, tq_get, tq_set, tq_inc, tb_get_neg, tb_set_neg, and_true, true_and, and_false, false_and, not_false_eq_true, not_true_eq_false] <;> rfl
theorem T_both (h : TXT f tx L) {N i k : Nat} (hN : 5000 ≤ N) (hi : i ≤ L) (hk : k < 12) (tf rd : Nat → Int32) (lo hh : Int32) :
    (∃ dw i', 1 ≤ dw ∧ dw ≤ 20 ∧ i < i' ∧ i' ≤ L ∧ cT lo hh (((100, f), nI L), ((nI 12, nI 3, 12 * 3, tf), nI k, nI 0, nI 0), nI i, m1) = some (((100, f), nI L), ((nI 12, nI 3, 12 * 3, upd (upd (upd tf (k * 3 + 0) lo) (k * 3 + 1) hh) (k * 3 + 2) (nI dw)), nI (k + 1), nI 0, nI 0), nI i', m1) ∧ mT N lo hh ((804, g), (n2, sv), sm, thr, (100, tx), nI L, nI i, (36, rd), nI k, so, wr, fo, (n5, bf), la) = some (nI 1, ((804, g), (n2, sv), sm, thr, (100, tx), nI L, nI i', (36, upd (upd (upd rd (3 * k) lo) (3 * k + 1) hh) (3 * k + 2) (nI dw)), nI (k + 1), so, wr, fo, (n5, bf), la))) ∨
    (∃ i' r, i' ≤ L ∧ r ≤ L ∧ cT lo hh (((100, f), nI L), ((nI 12, nI 3, 12 * 3, tf), nI k, nI 0, nI 0), nI i, m1) = some (((100, f), nI L), ((nI 12, nI 3, 12 * 3, tf), nI k, nI 0, nI 0), nI i', nI r) ∧ mT N lo hh ((804, g), (n2, sv), sm, thr, (100, tx), nI L, nI i, (36, rd), nI k, so, wr, fo, (n5, bf), la) = some (nI 0, ((804, g), (n2, sv), sm, thr, (100, tx), nI L, nI r, (36, rd), nI k, so, wr, fo, (n5, bf), la))) := by
  have hL := h.1
  rcases sgn_both (g := g) (sv := sv) (bf := bf) (n2 := n2) (n5 := n5) (sm := sm) (thr := thr) (so := so) (wr := wr) (fo := fo) (la := la) h hi (show 58 < 128 by decide) ((nI 12, nI 3, 12 * 3, tf), nI k, nI 0, nI 0) rd (nI k) with ⟨a1, -, a2, a3⟩ | ⟨-, a2, a3⟩
  · rcases num_both (g := g) (sv := sv) (bf := bf) (n2 := n2) (n5 := n5) (sm := sm) (thr := thr) (so := so) (wr := wr) (fo := fo) (la := la) h hN (show i + 1 ≤ L by omega) (show 1 ≤ 100 by decide) (show 20 ≤ 100 by decide) ((nI 12, nI 3, 12 * 3, tf), nI k, nI 0, nI 0) rd (nI k) with ⟨dw, i2, b1, b2, b3, b4, b5, b6⟩ | ⟨val, i2, r, b1, b2, b5, b6⟩
    · rcases sgn_both (g := g) (sv := sv) (bf := bf) (n2 := n2) (n5 := n5) (sm := sm) (thr := thr) (so := so) (wr := wr) (fo := fo) (la := la) h b4 (show 59 < 128 by decide) ((nI 12, nI 3, 12 * 3, tf), nI k, nI 0, nI 0) rd (nI k) with ⟨c1, -, c2, c3⟩ | ⟨-, c2, c3⟩
      · refine Or.inl ⟨dw, i2 + 1, b1, b2, by omega, by omega, ?_, ?_⟩
        · simp (disch := omega) only [cT, a2, b5, c2, sX5_add, ↓reduceIte, e_lt, e_bd, e_grd, e_clamp, e_l0, e_l1, e_l2, e_l3, e_l4, e_l5, e_l6, e_l7, e_l8, e_l9, e_l10, e_l12, e_l13, e_l20, e_l31, e_l32, e_l45, e_l48, e_l50, e_l57, e_l58, e_l59, e_l64, e_l70, e_l100, e_l106, e_l127, e_l138, e_l554, e_l799, e_l804, e_l1000, e_l2000, e_l2412, e_l100000, e_m1, nI_add, ni_mul, ni_sub, nI_clamp, e_ltT, e_ltF, e_leT, e_leF, e_eqT, e_eqF, e_mE, e_Em, e_mlt, e_mle, e_ltm, e_lem, e_gz, e_gt, e_bs, ite_self, e_el, e_er, tq_get, tq_set, tq_inc, tb_get_neg, tb_set_neg, and_true, true_and, and_false, false_and, not_false_eq_true, not_true_eq_false] <;> rfl
        · simp (disch := omega) only [mT, a3, b6, c3, ↓reduceIte, e_lt, e_bd, e_grd, e_clamp, e_l0, e_l1, e_l2, e_l3, e_l4, e_l5, e_l6, e_l7, e_l8, e_l9, e_l10, e_l12, e_l13, e_l20, e_l31, e_l32, e_l45, e_l48, e_l50, e_l57, e_l58, e_l59, e_l64, e_l70, e_l100, e_l106, e_l127, e_l138, e_l554, e_l799, e_l804, e_l1000, e_l2000, e_l2412, e_l100000, e_m1, nI_add, ni_mul, ni_sub, nI_clamp, e_ltT, e_ltF, e_leT, e_leF, e_eqT, e_eqF, e_mE, e_Em, e_mlt, e_mle, e_ltm, e_lem, e_gz, e_gt, e_bs, ite_self, e_el, e_er, tq_get, tq_set, tq_inc, tb_get_neg, tb_set_neg, and_true, true_and, and_false, false_and, not_false_eq_true, not_true_eq_false] <;> rfl
      · refine Or.inr ⟨i2, i2, b4, b4, ?_, ?_⟩
        · simp (disch := omega) only [cT, a2, b5, c2, ↓reduceIte, e_lt, e_bd, e_grd, e_clamp, e_l0, e_l1, e_l2, e_l3, e_l4, e_l5, e_l6, e_l7, e_l8, e_l9, e_l10, e_l12, e_l13, e_l20, e_l31, e_l32, e_l45, e_l48, e_l50, e_l57, e_l58, e_l59, e_l64, e_l70, e_l100, e_l106, e_l127, e_l138, e_l554, e_l799, e_l804, e_l1000, e_l2000, e_l2412, e_l100000, e_m1, nI_add, ni_mul, ni_sub, nI_clamp, e_ltT, e_ltF, e_leT, e_leF, e_eqT, e_eqF, e_mE, e_Em, e_mlt, e_mle, e_ltm, e_lem, e_gz, e_gt, e_bs, ite_self, e_el, e_er, tq_get, tq_set, tq_inc, tb_get_neg, tb_set_neg, and_true, true_and, and_false, false_and, not_false_eq_true, not_true_eq_false] <;> rfl
        · simp (disch := omega) only [mT, a3, b6, c3, ↓reduceIte, e_lt, e_bd, e_grd, e_clamp, e_l0, e_l1, e_l2, e_l3, e_l4, e_l5, e_l6, e_l7, e_l8, e_l9, e_l10, e_l12, e_l13, e_l20, e_l31, e_l32, e_l45, e_l48, e_l50, e_l57, e_l58, e_l59, e_l64, e_l70, e_l100, e_l106, e_l127, e_l138, e_l554, e_l799, e_l804, e_l1000, e_l2000, e_l2412, e_l100000, e_m1, nI_add, ni_mul, ni_sub, nI_clamp, e_ltT, e_ltF, e_leT, e_leF, e_eqT, e_eqF, e_mE, e_Em, e_mlt, e_mle, e_ltm, e_lem, e_gz, e_gt, e_bs, ite_self, e_el, e_er, tq_get, tq_set, tq_inc, tb_get_neg, tb_set_neg, and_true, true_and, and_false, false_and, not_false_eq_true, not_true_eq_false] <;> rfl
    · obtain ⟨i3, d1, d2⟩ := c_sgnT h b1 (show r ≤ 200 by omega) (show 59 < 128 by decide) ((nI 12, nI 3, 12 * 3, tf), nI k, nI 0, nI 0)
      refine Or.inr ⟨i3, r, d1, b2, ?_, ?_⟩
      · simp (disch := omega) only [cT, a2, b5, d2, ↓reduceIte, e_lt, e_bd, e_grd, e_clamp, e_l0, e_l1, e_l2, e_l3, e_l4, e_l5, e_l6, e_l7, e_l8, e_l9, e_l10, e_l12, e_l13, e_l20, e_l31, e_l32, e_l45, e_l48, e_l50, e_l57, e_l58, e_l59, e_l64, e_l70, e_l100, e_l106, e_l127, e_l138, e_l554, e_l799, e_l804, e_l1000, e_l2000, e_l2412, e_l100000, e_m1, nI_add, ni_mul, ni_sub, nI_clamp, e_ltT, e_ltF, e_leT, e_leF, e_eqT, e_eqF, e_mE, e_Em, e_mlt, e_mle, e_ltm, e_lem, e_gz, e_gt, e_bs, ite_self, e_el, e_er, tq_get, tq_set, tq_inc, tb_get_neg, tb_set_neg, and_true, true_and, and_false, false_and, not_false_eq_true, not_true_eq_false] <;> rfl
      · simp (disch := omega) only [mT, a3, b6, ↓reduceIte, e_lt, e_bd, e_grd, e_clamp, e_l0, e_l1, e_l2, e_l3, e_l4, e_l5, e_l6, e_l7, e_l8, e_l9, e_l10, e_l12, e_l13, e_l20, e_l31, e_l32, e_l45, e_l48, e_l50, e_l57, e_l58, e_l59, e_l64, e_l70, e_l100, e_l106, e_l127, e_l138, e_l554, e_l799, e_l804, e_l1000, e_l2000, e_l2412, e_l100000, e_m1, nI_add, ni_mul, ni_sub, nI_clamp, e_ltT, e_ltF, e_leT, e_leF, e_eqT, e_eqF, e_mE, e_Em, e_mlt, e_mle, e_ltm, e_lem, e_gz, e_gt, e_bs, ite_self, e_el, e_er, tq_get, tq_set, tq_inc, tb_get_neg, tb_set_neg, and_true, true_and, and_false, false_and, not_false_eq_true, not_true_eq_false] <;> rfl
  · obtain ⟨v2, i2, d1, d2⟩ := c_numT h hi (show i ≤ 200 by omega) (nI 1) (nI 20) ((nI 12, nI 3, 12 * 3, tf), nI k, nI 0, nI 0)
    obtain ⟨i3, d3, d4⟩ := c_sgnT h d1 (show i ≤ 200 by omega) (show 59 < 128 by decide) ((nI 12, nI 3, 12 * 3, tf), nI k, nI 0, nI 0)
    refine Or.inr ⟨i3, i, d3, hi, ?_, ?_⟩
    · simp (disch := omega) only [cT, a2, d2, d4, ↓reduceIte, e_lt, e_bd, e_grd, e_clamp, e_l0, e_l1, e_l2, e_l3, e_l4, e_l5, e_l6, e_l7, e_l8, e_l9, e_l10, e_l12, e_l13, e_l20, e_l31, e_l32, e_l45, e_l48, e_l50, e_l57, e_l58, e_l59, e_l64, e_l70, e_l100, e_l106, e_l127, e_l138, e_l554, e_l799, e_l804, e_l1000, e_l2000, e_l2412, e_l100000, e_m1, nI_add, ni_mul, ni_sub, nI_clamp, e_ltT, e_ltF, e_leT, e_leF, e_eqT, e_eqF, e_mE, e_Em, e_mlt, e_mle, e_ltm, e_lem, e_gz, e_gt, e_bs, ite_self, e_el, e_er, tq_get, tq_set, tq_inc, tb_get_neg, tb_set_neg, and_true, true_and, and_false, false_and, not_false_eq_true, not_true_eq_false] <;> rfl
    · simp (disch := omega) only [mT, a3, ↓reduceIte, e_lt, e_bd, e_grd, e_clamp, e_l0, e_l1, e_l2, e_l3, e_l4, e_l5, e_l6, e_l7, e_l8, e_l9, e_l10, e_l12, e_l13, e_l20, e_l31, e_l32, e_l45, e_l48, e_l50, e_l57, e_l58, e_l59, e_l64, e_l70, e_l100, e_l106, e_l127, e_l138, e_l554, e_l799, e_l804, e_l1000, e_l2000, e_l2412, e_l100000, e_m1, nI_add, ni_mul, ni_sub, nI_clamp, e_ltT, e_ltF, e_leT, e_leF, e_eqT, e_eqF, e_mE, e_Em, e_mlt, e_mle, e_ltm, e_lem, e_gz, e_gt, e_bs, ite_self, e_el, e_er, tq_get, tq_set, tq_inc, tb_get_neg, tb_set_neg, and_true, true_and, and_false, false_and, not_false_eq_true, not_true_eq_false] <;> rfl
/-- a step: read by both, or stopped by both at the same place -/
theorem st_both (h : TXT f tx L) {N i k : Nat} (hN : 5000 ≤ N) (hi : i ≤ L) (hk : k ≤ 12) (tf rd : Nat → Int32) :
    (∃ lo hh dw i', k < 12 ∧ lo ≤ hh ∧ hh < 32 ∧ 1 ≤ dw ∧ dw ≤ 20 ∧ i < i' ∧ i' ≤ L ∧ sX6_readStep (((100, f), nI L), ((nI 12, nI 3, 12 * 3, tf), nI k, nI 0, nI 0), nI i, m1) = some (((100, f), nI L), ((nI 12, nI 3, 12 * 3, upd (upd (upd tf (k * 3 + 0) (nI lo)) (k * 3 + 1) (nI hh)) (k * 3 + 2) (nI dw)), nI (k + 1), nI 0, nI 0), nI i', m1) ∧ sX11_readsStep N ((804, g), (n2, sv), sm, thr, (100, tx), nI L, nI i, (36, rd), nI k, so, wr, fo, (n5, bf), la) = some (nI 1, ((804, g), (n2, sv), sm, thr, (100, tx), nI L, nI i', (36, upd (upd (upd rd (3 * k) (nI lo)) (3 * k + 1) (nI hh)) (3 * k + 2) (nI dw)), nI (k + 1), so, wr, fo, (n5, bf), la))) ∨
    (∃ i' r, i' ≤ L ∧ r ≤ L ∧ sX6_readStep (((100, f), nI L), ((nI 12, nI 3, 12 * 3, tf), nI k, nI 0, nI 0), nI i, m1) = some (((100, f), nI L), ((nI 12, nI 3, 12 * 3, tf), nI k, nI 0, nI 0), nI i', nI r) ∧ sX11_readsStep N ((804, g), (n2, sv), sm, thr, (100, tx), nI L, nI i, (36, rd), nI k, so, wr, fo, (n5, bf), la) = some (nI 0, ((804, g), (n2, sv), sm, thr, (100, tx), nI L, nI r, (36, rd), nI k, so, wr, fo, (n5, bf), la))) := by
  have hL := h.1
  by_cases k12 : k = 12
  · subst k12
    refine Or.inr ⟨i, i, hi, hi, ?_, ?_⟩
    · simp (disch := omega) only [sX6_readStep, sX6_fail, ↓reduceIte, e_lt, e_bd, e_grd, e_clamp, e_l0, e_l1, e_l2, e_l3, e_l4, e_l5, e_l6, e_l7, e_l8, e_l9, e_l10, e_l12, e_l13, e_l20, e_l31, e_l32, e_l45, e_l48, e_l50, e_l57, e_l58, e_l59, e_l64, e_l70, e_l100, e_l106, e_l127, e_l138, e_l554, e_l799, e_l804, e_l1000, e_l2000, e_l2412, e_l100000, e_m1, nI_add, ni_mul, ni_sub, nI_clamp, e_ltT, e_ltF, e_leT, e_leF, e_eqT, e_eqF, e_mE, e_Em, e_mlt, e_mle, e_ltm, e_lem, e_gz, e_gt, e_bs, ite_self, e_el, e_er, tq_get, tq_set, tq_inc, tb_get_neg, tb_set_neg, and_true, true_and, and_false, false_and, not_false_eq_true, not_true_eq_false] <;> rfl
    · obtain ⟨N, rfl⟩ : ∃ N', N = N' + 3 := ⟨N - 3, by omega⟩
      have p0 := m_here (g := g) (sv := sv) (rd := rd) (bf := bf) (n2 := n2) (n5 := n5) (sm := sm) (thr := thr) (rm := nI 12) (so := so) (wr := wr) (fo := fo) (la := la) (pl := i) h (by omega)
      by_cases d0 : dgx tx L i
      · have y0 := m_dig1 d0
        exact ms_12a (v := ((804, g), (n2, sv), sm, thr, (100, tx), nI L, nI i, (36, rd), nI 12, so, wr, fo, (n5, bf), la)) rfl p0 y0 (by decide)
      · have y0 := m_dig0 d0
        have e : sX11_number (N + 3) ((804, g), (n2, sv), sm, thr, (100, tx), nI L, nI i, (36, rd), nI 12, so, wr, fo, (n5, bf), la) (nI 0) (nI 31) = some (m1, ((804, g), (n2, sv), sm, thr, (100, tx), nI L, nI i, (36, rd), nI 12, so, wr, fo, (n5, bf), la)) := by
          simp (disch := omega) only [sX11_number, qX11_number_8, p0, y0, ↓reduceIte, e_lt, e_bd, e_grd, e_clamp, e_l0, e_l1, e_l2, e_l3, e_l4, e_l5, e_l6, e_l7, e_l8, e_l9, e_l10, e_l12, e_l13, e_l20, e_l31, e_l32, e_l45, e_l48, e_l50, e_l57, e_l58, e_l59, e_l64, e_l70, e_l100, e_l106, e_l127, e_l138, e_l554, e_l799, e_l804, e_l1000, e_l2000, e_l2412, e_l100000, e_m1, nI_add, ni_mul, ni_sub, nI_clamp, e_ltT, e_ltF, e_leT, e_leF, e_eqT, e_eqF, e_mE, e_Em, e_mlt, e_mle, e_ltm, e_lem, e_gz, e_gt, e_bs, ite_self, e_el, e_er, tq_get, tq_set, tq_inc, tb_get_neg, tb_set_neg, and_true, true_and, and_false, false_and, not_false_eq_true, not_true_eq_false] <;> rfl
        exact ms_12b (v := ((804, g), (n2, sv), sm, thr, (100, tx), nI L, nI i, (36, rd), nI 12, so, wr, fo, (n5, bf), la)) rfl p0 y0 rfl e rfl
  have kl : k < 12 := by omega
  have z1 : ¬ nI 1 = (0 : Int32) := by decide
  have c12 : nI k < (12 : Int32) := nI_lt kl (by decide)
  have n12 : ¬ nI k = (12 : Int32) := fun e => k12 ((nI_eq (by omega) (by decide)).mp e)
  rcases num_both (g := g) (sv := sv) (bf := bf) (n2 := n2) (n5 := n5) (sm := sm) (thr := thr) (so := so) (wr := wr) (fo := fo) (la := la) h hN hi (show 0 ≤ 100 by decide) (show 31 ≤ 100 by decide) ((nI 12, nI 3, 12 * 3, tf), nI k, nI 0, nI 0) rd (nI k) with ⟨lo, i1, a1, a2, a3, a4, a5, a6⟩ | ⟨val, i1, r, a1, a2, a5, a6⟩
  · have lom : ¬ nI lo = (-1 : Int32) := fun e => (e_mE (show lo < 2 ^ 31 by omega)).mp e
    have b0 := c_by h (show i1 ≤ 200 by omega)
    rcases sgn_both (g := g) (sv := sv) (bf := bf) (n2 := n2) (n5 := n5) (sm := sm) (thr := thr) (so := so) (wr := wr) (fo := fo) (la := la) h a4 (show 45 < 128 by decide) ((nI 12, nI 3, 12 * 3, tf), nI k, nI 0, nI 0) rd (nI k) with ⟨b1, b2, -, b4⟩ | ⟨b2, -, b4⟩
    · rcases num_both (g := g) (sv := sv) (bf := bf) (n2 := n2) (n5 := n5) (sm := sm) (thr := thr) (so := so) (wr := wr) (fo := fo) (la := la) h hN (show i1 + 1 ≤ L by omega) (show lo ≤ 100 by omega) (show 31 ≤ 100 by decide) ((nI 12, nI 3, 12 * 3, tf), nI k, nI 0, nI 0) rd (nI k) with ⟨hh, i2, c1, c2, c3, c4, c5, c6⟩ | ⟨val, i2, r, c1, c2, c5, c6⟩
      · have him : ¬ nI hh = (-1 : Int32) := fun e => (e_mE (show hh < 2 ^ 31 by omega)).mp e
        have r1 := rs_yes (v := (((100, f), nI L), ((nI 12, nI 3, 12 * 3, tf), nI k, nI 0, nI 0), nI i, m1)) c12 a5 b0 b2 (by rw [show (nI i1 + (1 : Int32)) = nI (i1 + 1) from nI_add i1 1]; exact c5)
        have r2 := ms_yes (v := ((804, g), (n2, sv), sm, thr, (100, tx), nI L, nI i, (36, rd), nI k, so, wr, fo, (n5, bf), la)) n12 a6 lom b4 z1 c6 him
        rcases T_both (g := g) (sv := sv) (bf := bf) (n2 := n2) (n5 := n5) (sm := sm) (thr := thr) (so := so) (wr := wr) (fo := fo) (la := la) h hN c4 kl tf rd (nI lo) (nI hh) with ⟨dw, i3, t1, t2, t3, t4, t5, t6⟩ | ⟨i3, r, t1, t2, t5, t6⟩
        · exact Or.inl ⟨lo, hh, dw, i3, kl, c1, by omega, t1, t2, by omega, t4, r1.trans t5, r2.trans t6⟩
        · exact Or.inr ⟨i3, r, t1, t2, r1.trans t5, r2.trans t6⟩
      · have r1 := rs_yes (v := (((100, f), nI L), ((nI 12, nI 3, 12 * 3, tf), nI k, nI 0, nI 0), nI i, m1)) c12 a5 b0 b2 (by rw [show (nI i1 + (1 : Int32)) = nI (i1 + 1) from nI_add i1 1]; exact c5)
        have r2 := ms_yf (v := ((804, g), (n2, sv), sm, thr, (100, tx), nI L, nI i, (36, rd), nI k, so, wr, fo, (n5, bf), la)) n12 a6 lom b4 z1 c6 rfl
        obtain ⟨i3, d1, d2⟩ := cT_err h c1 (show r ≤ 200 by omega) ((nI 12, nI 3, 12 * 3, tf), nI k, nI 0, nI 0)
        exact Or.inr ⟨i3, r, d1, c2, r1.trans (d2 _ _), r2⟩
    · have r1 := rs_no (v := (((100, f), nI L), ((nI 12, nI 3, 12 * 3, tf), nI k, nI 0, nI 0), nI i, m1)) c12 a5 b0 b2
      have r2 := ms_no (v := ((804, g), (n2, sv), sm, thr, (100, tx), nI L, nI i, (36, rd), nI k, so, wr, fo, (n5, bf), la)) n12 a6 lom b4 rfl
      rcases T_both (g := g) (sv := sv) (bf := bf) (n2 := n2) (n5 := n5) (sm := sm) (thr := thr) (so := so) (wr := wr) (fo := fo) (la := la) h hN a4 kl tf rd (nI lo) (nI lo) with ⟨dw, i3, t1, t2, t3, t4, t5, t6⟩ | ⟨i3, r, t1, t2, t5, t6⟩
      · exact Or.inl ⟨lo, lo, dw, i3, kl, by omega, by omega, t1, t2, by omega, t4, r1.trans t5, r2.trans t6⟩
      · exact Or.inr ⟨i3, r, t1, t2, r1.trans t5, r2.trans t6⟩
  · have r2 := ms_fail (v := ((804, g), (n2, sv), sm, thr, (100, tx), nI L, nI i, (36, rd), nI k, so, wr, fo, (n5, bf), la)) n12 a6 rfl
    have b0 := c_by h (show i1 ≤ 200 by omega)
    by_cases q : btx tx L i1 = nI 45
    · have : i1 < L := by
        rcases bt_cases h i1 with ⟨q', -⟩ | ⟨-, q'⟩
        · exact q'
        · rw [q', e_Em (by omega)] at q
          exact q.elim
      obtain ⟨v2, i2, c1, c5⟩ := c_numT h (show i1 + 1 ≤ L by omega) (show r ≤ 200 by omega) val (nI 31) ((nI 12, nI 3, 12 * 3, tf), nI k, nI 0, nI 0)
      have r1 := rs_yes (v := (((100, f), nI L), ((nI 12, nI 3, 12 * 3, tf), nI k, nI 0, nI 0), nI i, m1)) c12 a5 b0 q (by rw [show (nI i1 + (1 : Int32)) = nI (i1 + 1) from nI_add i1 1]; exact c5)
      obtain ⟨i3, d1, d2⟩ := cT_err h c1 (show r ≤ 200 by omega) ((nI 12, nI 3, 12 * 3, tf), nI k, nI 0, nI 0)
      exact Or.inr ⟨i3, r, d1, a2, r1.trans (d2 _ _), r2⟩
    · have r1 := rs_no (v := (((100, f), nI L), ((nI 12, nI 3, 12 * 3, tf), nI k, nI 0, nI 0), nI i, m1)) c12 a5 b0 q
      obtain ⟨i3, d1, d2⟩ := cT_err h a1 (show r ≤ 200 by omega) ((nI 12, nI 3, 12 * 3, tf), nI k, nI 0, nI 0)
      exact Or.inr ⟨i3, r, d1, a2, r1.trans (d2 _ _), r2⟩
end PT
