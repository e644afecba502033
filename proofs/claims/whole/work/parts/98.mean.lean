/-! averages and occupancy -/
def sumI (h : Nat → Int32) : Nat → Int32
  | 0 => nI 0
  | n + 1 => sumI h n + h n
theorem sumI_cg {h h' : Nat → Int32} : ∀ {n : Nat}, (∀ j, j < n → h j = h' j) → sumI h n = sumI h' n
  | 0, _ => rfl
  | n + 1, e => by
    unfold sumI
    rw [sumI_cg (fun j hj => e j (by omega)), e n (by omega)]
theorem i32_lc (a b c : Int32) : a + (b + c) = b + (a + c) := by rw [← Int32.add_assoc, Int32.add_comm a b, Int32.add_assoc]
theorem sumI_rot (h : Nat → Int32) {r : Nat} (hr : r < 8) : sumI (fun j => h ((r + j) % 8)) 8 = sumI h 8 := by
  rcases (show r = 0 ∨ r = 1 ∨ r = 2 ∨ r = 3 ∨ r = 4 ∨ r = 5 ∨ r = 6 ∨ r = 7 by omega) with rfl | rfl | rfl | rfl | rfl | rfl | rfl | rfl <;>
    simp only [sumI, Nat.reduceAdd, Nat.reduceMod, Nat.zero_add, Nat.add_zero] <;>
    simp only [Int32.add_assoc, Int32.add_comm, i32_lc]
theorem q_mean {f1 f2 f3 : Nat → Int32} {c m : Nat} (hc : c < 32) (hm : m ≤ 8) : ∀ (d i M : Nat), i + d = m → d < M → qX1_mean_27 (dtv f1 f2 f3) (nI c) (nI m) M (sumI (fun j => f2 (c * 8 + j)) i) (nI i) = some (sumI (fun j => f2 (c * 8 + j)) m, nI m) := by
  intro d
  induction d with
  | zero =>
    intro i M hi hM
    obtain ⟨M, rfl⟩ : ∃ N', M = N' + 1 := ⟨M - 1, by omega⟩
    have : i = m := by omega
    subst this
    rw [qX1_mean_27]
    simp (disch := omega) only [↓reduceIte, e_lt, e_bd, e_grd, e_clamp, e_l0, e_l1, e_l2, e_l3, e_l4, e_l5, e_l6, e_l7, e_l8, e_l9, e_l10, e_l12, e_l13, e_l20, e_l31, e_l32, e_l45, e_l48, e_l50, e_l57, e_l58, e_l59, e_l64, e_l70, e_l100, e_l106, e_l127, e_l138, e_l554, e_l799, e_l804, e_l1000, e_l2000, e_l2412, e_l100000, e_m1, nI_add, ni_mul, ni_sub, nI_clamp, e_ltT, e_ltF, e_leT, e_leF, e_eqT, e_eqF, e_mE, e_Em, e_mlt, e_mle, e_ltm, e_lem, e_gz, e_gt, e_bs, ite_self, e_el, e_er, tq_get, tq_set, tq_inc, tb_get_neg, tb_set_neg, and_true, true_and, and_false, false_and, not_false_eq_true, not_true_eq_false] <;> rfl
  | succ d ih =>
    intro i M hi hM
    obtain ⟨M, rfl⟩ : ∃ N', M = N' + 1 := ⟨M - 1, by omega⟩
    have hi2 := ih (i + 1) M (by omega) (by omega)
    unfold dtv at hi2
    have e : sumI (fun j => f2 (c * 8 + j)) (i + 1) = sumI (fun j => f2 (c * 8 + j)) i + f2 (c * 8 + i) := rfl
    rw [e] at hi2
    rw [qX1_mean_27]
    simp (disch := omega) only [dtv, hi2, ↓reduceIte, e_lt, e_bd, e_grd, e_clamp, e_l0, e_l1, e_l2, e_l3, e_l4, e_l5, e_l6, e_l7, e_l8, e_l9, e_l10, e_l12, e_l13, e_l20, e_l31, e_l32, e_l45, e_l48, e_l50, e_l57, e_l58, e_l59, e_l64, e_l70, e_l100, e_l106, e_l127, e_l138, e_l554, e_l799, e_l804, e_l1000, e_l2000, e_l2412, e_l100000, e_m1, nI_add, ni_mul, ni_sub, nI_clamp, e_ltT, e_ltF, e_leT, e_leF, e_eqT, e_eqF, e_mE, e_Em, e_mlt, e_mle, e_ltm, e_lem, e_gz, e_gt, e_bs, ite_self, e_el, e_er, tq_get, tq_set, tq_inc, tb_get_neg, tb_set_neg, and_true, true_and, and_false, false_and, not_false_eq_true, not_true_eq_false] <;> rfl
theorem q_rmean {w : V11} {c m : Nat} (hz : w.1.1 = 804) (hc : c < 32) (hm : m ≤ 8) (h4 : w.1.2 (138 + 13 * c + 4) = nI m) : ∀ (d i M : Nat), i + d = m → d < M → qX11_averageOf_14 w (nI c) M (sumI (fun j => w.1.2 (138 + 13 * c + 5 + j)) i) (nI i) = some (sumI (fun j => w.1.2 (138 + 13 * c + 5 + j)) m, nI m) := by
  intro d
  induction d with
  | zero =>
    intro i M hi hM
    obtain ⟨M, rfl⟩ : ∃ N', M = N' + 1 := ⟨M - 1, by omega⟩
    have : i = m := by omega
    subst this
    rw [qX11_averageOf_14]
    simp (disch := omega) only [hz, h4, ↓reduceIte, e_lt, e_bd, e_grd, e_clamp, e_l0, e_l1, e_l2, e_l3, e_l4, e_l5, e_l6, e_l7, e_l8, e_l9, e_l10, e_l12, e_l13, e_l20, e_l31, e_l32, e_l45, e_l48, e_l50, e_l57, e_l58, e_l59, e_l64, e_l70, e_l100, e_l106, e_l127, e_l138, e_l554, e_l799, e_l804, e_l1000, e_l2000, e_l2412, e_l100000, e_m1, nI_add, ni_mul, ni_sub, nI_clamp, e_ltT, e_ltF, e_leT, e_leF, e_eqT, e_eqF, e_mE, e_Em, e_mlt, e_mle, e_ltm, e_lem, e_gz, e_gt, e_bs, ite_self, e_el, e_er, tq_get, tq_set, tq_inc, tb_get_neg, tb_set_neg, and_true, true_and, and_false, false_and, not_false_eq_true, not_true_eq_false] <;> rfl
  | succ d ih =>
    intro i M hi hM
    obtain ⟨M, rfl⟩ : ∃ N', M = N' + 1 := ⟨M - 1, by omega⟩
    have hi2 := ih (i + 1) M (by omega) (by omega)
    have e : sumI (fun j => w.1.2 (138 + 13 * c + 5 + j)) (i + 1) = sumI (fun j => w.1.2 (138 + 13 * c + 5 + j)) i + w.1.2 (138 + 13 * c + 5 + i) := rfl
    rw [e] at hi2
    rw [qX11_averageOf_14]
    simp (disch := omega) only [hz, h4, hi2, ↓reduceIte, e_lt, e_bd, e_grd, e_clamp, e_l0, e_l1, e_l2, e_l3, e_l4, e_l5, e_l6, e_l7, e_l8, e_l9, e_l10, e_l12, e_l13, e_l20, e_l31, e_l32, e_l45, e_l48, e_l50, e_l57, e_l58, e_l59, e_l64, e_l70, e_l100, e_l106, e_l127, e_l138, e_l554, e_l799, e_l804, e_l1000, e_l2000, e_l2412, e_l100000, e_m1, nI_add, ni_mul, ni_sub, nI_clamp, e_ltT, e_ltF, e_leT, e_leF, e_eqT, e_eqF, e_mE, e_Em, e_mlt, e_mle, e_ltm, e_lem, e_gz, e_gt, e_bs, ite_self, e_el, e_er, tq_get, tq_set, tq_inc, tb_get_neg, tb_set_neg, and_true, true_and, and_false, false_and, not_false_eq_true, not_true_eq_false] <;> rfl
theorem av_both {N c t : Nat} {v : V1} {w : V11} (hN : 5000 ≤ N) (hz : w.1.1 = 804) (hc : c < 32) (ht : t < 2 ^ 30) (h : Rdet v w.1.2 t) : ∃ x, sX1_mean N v (nI c) = some x ∧ sX11_averageOf N w (nI c) = some x := by
  obtain ⟨f1, f2, f3, rfl, h2⟩ := h.ex
  obtain ⟨ob, q1, q2, q3, q4⟩ := h2.2.2 c hc
  have q1 : ob ≤ t := q1
  have hob : f1 (c * 4 + 0) = nI ob := (h2.2.1 c 0 hc (by omega)).trans q2
  have hmn : (if nI 8 < nI ob then nI 8 else nI ob) = nI (min ob 8) := by
    by_cases q : 8 < ob
    · rw [if_pos (nI_lt q (by omega)), Nat.min_eq_right (by omega)]
    · rw [if_neg (nI_nlt (by omega) (by omega)), Nat.min_eq_left (by omega)]
  have hm8 : min ob 8 ≤ 8 := by omega
  have a1 := q_mean (f1 := f1) (f2 := f2) (f3 := f3) hc hm8 (min ob 8) 0 N (by omega) (by omega)
  have a2 := q_rmean hz hc hm8 q3 (min ob 8) 0 N (by omega) (by omega)
  have es : sumI (fun j => w.1.2 (138 + 13 * c + 5 + j)) (min ob 8) = sumI (fun j => f2 (c * 8 + j)) (min ob 8) := by
    rw [sumI_cg (h' := fun j => f2 (c * 8 + (ob - min ob 8 + j) % 8)) q4]
    by_cases q : ob ≤ 8
    · refine sumI_cg (fun j hj => ?_)
      exact congrArg _ (by omega)
    · rw [Nat.min_eq_right (by omega)]
      have := sumI_rot (fun j => f2 (c * 8 + j)) (r := (ob - 8) % 8) (Nat.mod_lt _ (by decide))
      rw [← this]
      refine sumI_cg (fun j hj => ?_)
      exact congrArg _ (by omega)
  rw [es] at a2
  have a1 : qX1_mean_27 (dtv f1 f2 f3) (nI c) (nI (min ob 8)) N (nI 0) (nI 0) = _ := a1
  have a2 : qX11_averageOf_14 w (nI c) N (nI 0) (nI 0) = _ := a2
  generalize min ob 8 = m at hmn hm8 a1 a2 q3
  have hg : sX9_get (dtv f1 f2 f3).1 (nI c) (nI 0) = some (nI ob) := by
    simp (disch := omega) only [dtv, hob, ↓reduceIte, e_lt, e_bd, e_grd, e_clamp, e_l0, e_l1, e_l2, e_l3, e_l4, e_l5, e_l6, e_l7, e_l8, e_l9, e_l10, e_l12, e_l13, e_l20, e_l31, e_l32, e_l45, e_l48, e_l50, e_l57, e_l58, e_l59, e_l64, e_l70, e_l100, e_l106, e_l127, e_l138, e_l554, e_l799, e_l804, e_l1000, e_l2000, e_l2412, e_l100000, e_m1, nI_add, ni_mul, ni_sub, nI_clamp, e_ltT, e_ltF, e_leT, e_leF, e_eqT, e_eqF, e_mE, e_Em, e_mlt, e_mle, e_ltm, e_lem, e_gz, e_gt, e_bs, ite_self, e_el, e_er, tq_get, tq_set, tq_inc, tb_get_neg, tb_set_neg, and_true, true_and, and_false, false_and, not_false_eq_true, not_true_eq_false] <;> rfl
  by_cases hm0 : m = 0
  · subst hm0
    refine ⟨m1, ?_, ?_⟩
    · simp (disch := omega) only [sX1_mean, hg, hmn, ↓reduceIte, e_lt, e_bd, e_grd, e_clamp, e_l0, e_l1, e_l2, e_l3, e_l4, e_l5, e_l6, e_l7, e_l8, e_l9, e_l10, e_l12, e_l13, e_l20, e_l31, e_l32, e_l45, e_l48, e_l50, e_l57, e_l58, e_l59, e_l64, e_l70, e_l100, e_l106, e_l127, e_l138, e_l554, e_l799, e_l804, e_l1000, e_l2000, e_l2412, e_l100000, e_m1, nI_add, ni_mul, ni_sub, nI_clamp, e_ltT, e_ltF, e_leT, e_leF, e_eqT, e_eqF, e_mE, e_Em, e_mlt, e_mle, e_ltm, e_lem, e_gz, e_gt, e_bs, ite_self, e_el, e_er, tq_get, tq_set, tq_inc, tb_get_neg, tb_set_neg, and_true, true_and, and_false, false_and, not_false_eq_true, not_true_eq_false] <;> rfl
    · simp (disch := omega) only [sX11_averageOf, a2, hz, q3, ↓reduceIte, e_lt, e_bd, e_grd, e_clamp, e_l0, e_l1, e_l2, e_l3, e_l4, e_l5, e_l6, e_l7, e_l8, e_l9, e_l10, e_l12, e_l13, e_l20, e_l31, e_l32, e_l45, e_l48, e_l50, e_l57, e_l58, e_l59, e_l64, e_l70, e_l100, e_l106, e_l127, e_l138, e_l554, e_l799, e_l804, e_l1000, e_l2000, e_l2412, e_l100000, e_m1, nI_add, ni_mul, ni_sub, nI_clamp, e_ltT, e_ltF, e_leT, e_leF, e_eqT, e_eqF, e_mE, e_Em, e_mlt, e_mle, e_ltm, e_lem, e_gz, e_gt, e_bs, ite_self, e_el, e_er, tq_get, tq_set, tq_inc, tb_get_neg, tb_set_neg, and_true, true_and, and_false, false_and, not_false_eq_true, not_true_eq_false] <;> rfl
  · refine ⟨sumI (fun j => f2 (c * 8 + j)) m / nI m, ?_, ?_⟩
    · simp (disch := omega) only [sX1_mean, hg, hmn, a1, ↓reduceIte, e_lt, e_bd, e_grd, e_clamp, e_l0, e_l1, e_l2, e_l3, e_l4, e_l5, e_l6, e_l7, e_l8, e_l9, e_l10, e_l12, e_l13, e_l20, e_l31, e_l32, e_l45, e_l48, e_l50, e_l57, e_l58, e_l59, e_l64, e_l70, e_l100, e_l106, e_l127, e_l138, e_l554, e_l799, e_l804, e_l1000, e_l2000, e_l2412, e_l100000, e_m1, nI_add, ni_mul, ni_sub, nI_clamp, e_ltT, e_ltF, e_leT, e_leF, e_eqT, e_eqF, e_mE, e_Em, e_mlt, e_mle, e_ltm, e_lem, e_gz, e_gt, e_bs, ite_self, e_el, e_er, tq_get, tq_set, tq_inc, tb_get_neg, tb_set_neg, and_true, true_and, and_false, false_and, not_false_eq_true, not_true_eq_false] <;> rfl
    · simp (disch := omega) only [sX11_averageOf, a2, hz, q3, ↓reduceIte, e_lt, e_bd, e_grd, e_clamp, e_l0, e_l1, e_l2, e_l3, e_l4, e_l5, e_l6, e_l7, e_l8, e_l9, e_l10, e_l12, e_l13, e_l20, e_l31, e_l32, e_l45, e_l48, e_l50, e_l57, e_l58, e_l59, e_l64, e_l70, e_l100, e_l106, e_l127, e_l138, e_l554, e_l799, e_l804, e_l1000, e_l2000, e_l2412, e_l100000, e_m1, nI_add, ni_mul, ni_sub, nI_clamp, e_ltT, e_ltF, e_leT, e_leF, e_eqT, e_eqF, e_mE, e_Em, e_mlt, e_mle, e_ltm, e_lem, e_gz, e_gt, e_bs, ite_self, e_el, e_er, tq_get, tq_set, tq_inc, tb_get_neg, tb_set_neg, and_true, true_and, and_false, false_and, not_false_eq_true, not_true_eq_false] <;> rfl
theorem pu_average {N : Nat} (hN : 5000 ≤ N) : PU_average RR N := by
  intro cn v w p1 hcn h
  by_cases hA : nI 0 ≤ p1 ∧ p1 < nI 32
  case neg =>
    refine Or.inr ⟨(nI 0, setTh w (nI 1)), ?_, ?_, rfl, h.th (nI 1)⟩
    · simp (disch := omega) only [sX10_average, c_idx, hA, ↓reduceIte, e_lt, e_bd, e_grd, e_clamp, e_l0, e_l1, e_l2, e_l3, e_l4, e_l5, e_l6, e_l7, e_l8, e_l9, e_l10, e_l12, e_l13, e_l20, e_l31, e_l32, e_l45, e_l48, e_l50, e_l57, e_l58, e_l59, e_l64, e_l70, e_l100, e_l106, e_l127, e_l138, e_l554, e_l799, e_l804, e_l1000, e_l2000, e_l2412, e_l100000, e_m1, nI_add, ni_mul, ni_sub, nI_clamp, e_ltT, e_ltF, e_leT, e_leF, e_eqT, e_eqF, e_mE, e_Em, e_mlt, e_mle, e_ltm, e_lem, e_gz, e_gt, e_bs, ite_self, e_el, e_er, tq_get, tq_set, tq_inc, tb_get_neg, tb_set_neg, and_true, true_and, and_false, false_and, not_false_eq_true, not_true_eq_false] <;> rfl
    · simp (disch := omega) only [sX11_average, m_isC', hA, m_go0, ↓reduceIte, e_lt, e_bd, e_grd, e_clamp, e_l0, e_l1, e_l2, e_l3, e_l4, e_l5, e_l6, e_l7, e_l8, e_l9, e_l10, e_l12, e_l13, e_l20, e_l31, e_l32, e_l45, e_l48, e_l50, e_l57, e_l58, e_l59, e_l64, e_l70, e_l100, e_l106, e_l127, e_l138, e_l554, e_l799, e_l804, e_l1000, e_l2000, e_l2412, e_l100000, e_m1, nI_add, ni_mul, ni_sub, nI_clamp, e_ltT, e_ltF, e_leT, e_leF, e_eqT, e_eqF, e_mE, e_Em, e_mlt, e_mle, e_ltm, e_lem, e_gz, e_gt, e_bs, ite_self, e_el, e_er, tq_get, tq_set, tq_inc, tb_get_neg, tb_set_neg, and_true, true_and, and_false, false_and, not_false_eq_true, not_true_eq_false] <;> rfl
  obtain ⟨c, hc, rfl⟩ := rg_lt (by decide) hA.1 hA.2
  obtain ⟨-, -, ⟨-, -, t, ht, -, hD, -⟩, -⟩ := id h
  obtain ⟨x, e1, e2⟩ := av_both (N := N) (w := setTh w (nI 0)) hN h.1.1 hc (by omega) hD
  refine Or.inl ⟨x, (x, setTh w (nI 0)), ?_, ?_, rfl, rfl, h.th (nI 0)⟩
  · simp (disch := omega) only [sX10_average, c_idx, e1, ↓reduceIte, e_lt, e_bd, e_grd, e_clamp, e_l0, e_l1, e_l2, e_l3, e_l4, e_l5, e_l6, e_l7, e_l8, e_l9, e_l10, e_l12, e_l13, e_l20, e_l31, e_l32, e_l45, e_l48, e_l50, e_l57, e_l58, e_l59, e_l64, e_l70, e_l100, e_l106, e_l127, e_l138, e_l554, e_l799, e_l804, e_l1000, e_l2000, e_l2412, e_l100000, e_m1, nI_add, ni_mul, ni_sub, nI_clamp, e_ltT, e_ltF, e_leT, e_leF, e_eqT, e_eqF, e_mE, e_Em, e_mlt, e_mle, e_ltm, e_lem, e_gz, e_gt, e_bs, ite_self, e_el, e_er, tq_get, tq_set, tq_inc, tb_get_neg, tb_set_neg, and_true, true_and, and_false, false_and, not_false_eq_true, not_true_eq_false] <;> rfl
  · simp (disch := omega) only [sX11_average, m_isC', m_go11, e2, ↓reduceIte, e_lt, e_bd, e_grd, e_clamp, e_l0, e_l1, e_l2, e_l3, e_l4, e_l5, e_l6, e_l7, e_l8, e_l9, e_l10, e_l12, e_l13, e_l20, e_l31, e_l32, e_l45, e_l48, e_l50, e_l57, e_l58, e_l59, e_l64, e_l70, e_l100, e_l106, e_l127, e_l138, e_l554, e_l799, e_l804, e_l1000, e_l2000, e_l2412, e_l100000, e_m1, nI_add, ni_mul, ni_sub, nI_clamp, e_ltT, e_ltF, e_leT, e_leF, e_eqT, e_eqF, e_mE, e_Em, e_mlt, e_mle, e_ltm, e_lem, e_gz, e_gt, e_bs, ite_self, e_el, e_er, tq_get, tq_set, tq_inc, tb_get_neg, tb_set_neg, and_true, true_and, and_false, false_and, not_false_eq_true, not_true_eq_false] <;> rfl
/-! a quotient of ints is a number -/
theorem i2d_fin (a : Int32) : ∃ s c q, FP.Core.val64 (FP.i2d a) = .fin s c q ∧ (c = 0 → a.toInt = 0) := by
  have hr := fb_rng a
  obtain ⟨c, q, h1, h2⟩ := FP.Core.round_exact FP.Core.good_b64 (decide (a.toInt < 0)) (c := a.toInt.natAbs) (q := 0) (by
    show a.toInt.natAbs < 2 ^ 53
    omega) (by decide) (by decide)
  refine ⟨_, c, q, (FP.Core.val64_i2d a).trans h1, fun hc => ?_⟩
  subst hc
  unfold FP.Core.inUnits at h2
  rw [Nat.zero_mul] at h2
  rcases Nat.mul_eq_zero.mp h2.symm with h | h
  · omega
  · have := Nat.two_pow_pos (0 - FP.Core.b64.qmin).toNat
    omega
theorem dv_ok {a b : Int32} (hb : b.toInt ≠ 0) : vf_n64 (FP.ddiv (FP.i2d a) (FP.i2d b)) := by
  obtain ⟨s1, c1, q1, h1, -⟩ := i2d_fin a
  obtain ⟨s2, c2, q2, h2, h3⟩ := i2d_fin b
  have hv : FP.Core.val64 (FP.ddiv (FP.i2d a) (FP.i2d b)) ≠ .nan := by
    rw [show FP.Core.val64 (FP.ddiv (FP.i2d a) (FP.i2d b)) = _ from FP.Core.val64_ddiv _ _, h1, h2]
    unfold FP.Core.quotient
    dsimp only
    rw [if_neg (fun q => hb (h3 q))]
    exact FP.Core.roundRatio_ne_nan _ _ _ _ _
  have := (fl_nan _).mp hv
  unfold vf_n64
  rw [UInt64.le_iff_toNat_le, FP.Core.mask_toNat]
  exact this
theorem pu_occupancy {N : Nat} : PU_occupancy RR N := by
  intro cn v w p1 hcn h
  have hz : w.1.1 = 804 := h.1.1
  by_cases hA : nI 0 ≤ p1 ∧ p1 < nI 32
  case neg =>
    refine Or.inr ⟨(FP.dconst0, setTh w (nI 1)), ?_, ?_, rfl, h.th (nI 1)⟩
    · simp (disch := omega) only [sX10_occupancy, c_idx, hA, ↓reduceIte, e_lt, e_bd, e_grd, e_clamp, e_l0, e_l1, e_l2, e_l3, e_l4, e_l5, e_l6, e_l7, e_l8, e_l9, e_l10, e_l12, e_l13, e_l20, e_l31, e_l32, e_l45, e_l48, e_l50, e_l57, e_l58, e_l59, e_l64, e_l70, e_l100, e_l106, e_l127, e_l138, e_l554, e_l799, e_l804, e_l1000, e_l2000, e_l2412, e_l100000, e_m1, nI_add, ni_mul, ni_sub, nI_clamp, e_ltT, e_ltF, e_leT, e_leF, e_eqT, e_eqF, e_mE, e_Em, e_mlt, e_mle, e_ltm, e_lem, e_gz, e_gt, e_bs, ite_self, e_el, e_er, tq_get, tq_set, tq_inc, tb_get_neg, tb_set_neg, and_true, true_and, and_false, false_and, not_false_eq_true, not_true_eq_false] <;> rfl
    · simp (disch := omega) only [sX11_occupancy, m_isC', hA, m_go0, ↓reduceIte, e_lt, e_bd, e_grd, e_clamp, e_l0, e_l1, e_l2, e_l3, e_l4, e_l5, e_l6, e_l7, e_l8, e_l9, e_l10, e_l12, e_l13, e_l20, e_l31, e_l32, e_l45, e_l48, e_l50, e_l57, e_l58, e_l59, e_l64, e_l70, e_l100, e_l106, e_l127, e_l138, e_l554, e_l799, e_l804, e_l1000, e_l2000, e_l2412, e_l100000, e_m1, nI_add, ni_mul, ni_sub, nI_clamp, e_ltT, e_ltF, e_leT, e_leF, e_eqT, e_eqF, e_mE, e_Em, e_mlt, e_mle, e_ltm, e_lem, e_gz, e_gt, e_bs, ite_self, e_el, e_er, tq_get, tq_set, tq_inc, tb_get_neg, tb_set_neg, and_true, true_and, and_false, false_and, not_false_eq_true, not_true_eq_false] <;> rfl
  obtain ⟨c, hc, rfl⟩ := rg_lt (by decide) hA.1 hA.2
  obtain ⟨-, -, ⟨-, -, t, ht, -, hD, -⟩, -⟩ := id h
  obtain ⟨f1, f2, f3, hv, hR⟩ := hD.ex
  obtain ⟨ob, q1, q2, q3, q4⟩ := hR.2.2 c hc
  have q1 : ob ≤ t := q1
  have hob : f1 (c * 4 + 0) = nI ob := (hR.2.1 c 0 hc (by omega)).trans q2
  have hht : f1 (c * 4 + 1) = w.1.2 (138 + 13 * c + 1) := hR.2.1 c 1 hc (by omega)
  have g0 : sX9_get v.2.2.1.2.2.1.1 (nI c) (nI 0) = some (nI ob) := by
    rw [hv]
    simp (disch := omega) only [dtv, hob, ↓reduceIte, e_lt, e_bd, e_grd, e_clamp, e_l0, e_l1, e_l2, e_l3, e_l4, e_l5, e_l6, e_l7, e_l8, e_l9, e_l10, e_l12, e_l13, e_l20, e_l31, e_l32, e_l45, e_l48, e_l50, e_l57, e_l58, e_l59, e_l64, e_l70, e_l100, e_l106, e_l127, e_l138, e_l554, e_l799, e_l804, e_l1000, e_l2000, e_l2412, e_l100000, e_m1, nI_add, ni_mul, ni_sub, nI_clamp, e_ltT, e_ltF, e_leT, e_leF, e_eqT, e_eqF, e_mE, e_Em, e_mlt, e_mle, e_ltm, e_lem, e_gz, e_gt, e_bs, ite_self, e_el, e_er, tq_get, tq_set, tq_inc, tb_get_neg, tb_set_neg, and_true, true_and, and_false, false_and, not_false_eq_true, not_true_eq_false] <;> rfl
  have g1 : sX9_get v.2.2.1.2.2.1.1 (nI c) (nI 1) = some (w.1.2 (138 + 13 * c + 1)) := by
    rw [hv]
    simp (disch := omega) only [dtv, hht, ↓reduceIte, e_lt, e_bd, e_grd, e_clamp, e_l0, e_l1, e_l2, e_l3, e_l4, e_l5, e_l6, e_l7, e_l8, e_l9, e_l10, e_l12, e_l13, e_l20, e_l31, e_l32, e_l45, e_l48, e_l50, e_l57, e_l58, e_l59, e_l64, e_l70, e_l100, e_l106, e_l127, e_l138, e_l554, e_l799, e_l804, e_l1000, e_l2000, e_l2412, e_l100000, e_m1, nI_add, ni_mul, ni_sub, nI_clamp, e_ltT, e_ltF, e_leT, e_leF, e_eqT, e_eqF, e_mE, e_Em, e_mlt, e_mle, e_ltm, e_lem, e_gz, e_gt, e_bs, ite_self, e_el, e_er, tq_get, tq_set, tq_inc, tb_get_neg, tb_set_neg, and_true, true_and, and_false, false_and, not_false_eq_true, not_true_eq_false] <;> rfl
  by_cases h0 : ob = 0
  · subst h0
    refine Or.inl ⟨FP.dconst0, (FP.dconst0, setTh w (nI 0)), ?_, ?_, rfl, rfl, h.th (nI 0)⟩
    · simp (disch := omega) only [sX10_occupancy, c_idx, g0, g1, ↓reduceIte, e_lt, e_bd, e_grd, e_clamp, e_l0, e_l1, e_l2, e_l3, e_l4, e_l5, e_l6, e_l7, e_l8, e_l9, e_l10, e_l12, e_l13, e_l20, e_l31, e_l32, e_l45, e_l48, e_l50, e_l57, e_l58, e_l59, e_l64, e_l70, e_l100, e_l106, e_l127, e_l138, e_l554, e_l799, e_l804, e_l1000, e_l2000, e_l2412, e_l100000, e_m1, nI_add, ni_mul, ni_sub, nI_clamp, e_ltT, e_ltF, e_leT, e_leF, e_eqT, e_eqF, e_mE, e_Em, e_mlt, e_mle, e_ltm, e_lem, e_gz, e_gt, e_bs, ite_self, e_el, e_er, tq_get, tq_set, tq_inc, tb_get_neg, tb_set_neg, and_true, true_and, and_false, false_and, not_false_eq_true, not_true_eq_false] <;> rfl
    · simp (disch := omega) only [sX11_occupancy, m_isC', m_go11, setTh, hz, q2, ↓reduceIte, e_lt, e_bd, e_grd, e_clamp, e_l0, e_l1, e_l2, e_l3, e_l4, e_l5, e_l6, e_l7, e_l8, e_l9, e_l10, e_l12, e_l13, e_l20, e_l31, e_l32, e_l45, e_l48, e_l50, e_l57, e_l58, e_l59, e_l64, e_l70, e_l100, e_l106, e_l127, e_l138, e_l554, e_l799, e_l804, e_l1000, e_l2000, e_l2412, e_l100000, e_m1, nI_add, ni_mul, ni_sub, nI_clamp, e_ltT, e_ltF, e_leT, e_leF, e_eqT, e_eqF, e_mE, e_Em, e_mlt, e_mle, e_ltm, e_lem, e_gz, e_gt, e_bs, ite_self, e_el, e_er, tq_get, tq_set, tq_inc, tb_get_neg, tb_set_neg, and_true, true_and, and_false, false_and, not_false_eq_true, not_true_eq_false] <;> rfl
  · have hd := dv_ok (a := w.1.2 (138 + 13 * c + 1)) (b := nI ob) (by rw [nI_toInt (by omega)]; omega)
    have hg : ∀ {α : Type} (K : Option α), grd (vf_n64 (FP.ddiv (FP.i2d (w.1.2 (138 + 13 * c + 1))) (FP.i2d (nI ob)))) K = K := fun K => grd_pos hd K
    refine Or.inl ⟨FP.ddiv (FP.i2d (w.1.2 (138 + 13 * c + 1))) (FP.i2d (nI ob)), (FP.ddiv (FP.i2d (w.1.2 (138 + 13 * c + 1))) (FP.i2d (nI ob)), setTh w (nI 0)), ?_, ?_, rfl, rfl, h.th (nI 0)⟩
    · simp (disch := omega) only [sX10_occupancy, c_idx, g0, g1, hg, ↓reduceIte, e_lt, e_bd, e_grd, e_clamp, e_l0, e_l1, e_l2, e_l3, e_l4, e_l5, e_l6, e_l7, e_l8, e_l9, e_l10, e_l12, e_l13, e_l20, e_l31, e_l32, e_l45, e_l48, e_l50, e_l57, e_l58, e_l59, e_l64, e_l70, e_l100, e_l106, e_l127, e_l138, e_l554, e_l799, e_l804, e_l1000, e_l2000, e_l2412, e_l100000, e_m1, nI_add, ni_mul, ni_sub, nI_clamp, e_ltT, e_ltF, e_leT, e_leF, e_eqT, e_eqF, e_mE, e_Em, e_mlt, e_mle, e_ltm, e_lem, e_gz, e_gt, e_bs, ite_self, e_el, e_er, tq_get, tq_set, tq_inc, tb_get_neg, tb_set_neg, and_true, true_and, and_false, false_and, not_false_eq_true, not_true_eq_false] <;> rfl
    · simp (disch := omega) only [sX11_occupancy, m_isC', m_go11, setTh, hz, q2, hg, ↓reduceIte, e_lt, e_bd, e_grd, e_clamp, e_l0, e_l1, e_l2, e_l3, e_l4, e_l5, e_l6, e_l7, e_l8, e_l9, e_l10, e_l12, e_l13, e_l20, e_l31, e_l32, e_l45, e_l48, e_l50, e_l57, e_l58, e_l59, e_l64, e_l70, e_l100, e_l106, e_l127, e_l138, e_l554, e_l799, e_l804, e_l1000, e_l2000, e_l2412, e_l100000, e_m1, nI_add, ni_mul, ni_sub, nI_clamp, e_ltT, e_ltF, e_leT, e_leF, e_eqT, e_eqF, e_mE, e_Em, e_mlt, e_mle, e_ltm, e_lem, e_gz, e_gt, e_bs, ite_self, e_el, e_er, tq_get, tq_set, tq_inc, tb_get_neg, tb_set_neg, and_true, true_and, and_false, false_and, not_false_eq_true, not_true_eq_false] <;> rfl
