/-! run -/
noncomputable def CQ (N : Nat) (v0 : V10) (kk M : Nat) (i : Nat) (v : V8) (lv : Nat → Int32) := qX10_run_21 N v0 (nI kk) M (nI i) v.1 v.2.1 v.2.2.1 v.2.2.2.1 v.2.2.2.2.1 v.2.2.2.2.2.1 v.2.2.2.2.2.2.1 v.2.2.2.2.2.2.2.1 v.2.2.2.2.2.2.2.2 lv
noncomputable def CR (N kk M i : Nat) (w : V11) := qX11_run_25 N (nI kk) M (nI i) w.1.1 w.1.2 w.2.1.1 w.2.1.2 w.2.2.1 w.2.2.2.1 w.2.2.2.2.1.1 w.2.2.2.2.1.2 w.2.2.2.2.2.1 w.2.2.2.2.2.2.1 w.2.2.2.2.2.2.2.1.1 w.2.2.2.2.2.2.2.1.2 w.2.2.2.2.2.2.2.2.1 w.2.2.2.2.2.2.2.2.2.1 w.2.2.2.2.2.2.2.2.2.2.1 w.2.2.2.2.2.2.2.2.2.2.2.1 w.2.2.2.2.2.2.2.2.2.2.2.2.1.1 w.2.2.2.2.2.2.2.2.2.2.2.2.1.2 w.2.2.2.2.2.2.2.2.2.2.2.2.2
def CRo (z : Int32) (w : V11) : Int32 × Nat × (Nat → Int32) × Nat × (Nat → Int32) × Int32 × Int32 × Nat × (Nat → Int32) × Int32 × Int32 × Nat × (Nat → Int32) × Int32 × Int32 × Int32 × Int32 × Nat × (Nat → Int32) × Int32 := (z, w.1.1, w.1.2, w.2.1.1, w.2.1.2, w.2.2.1, w.2.2.2.1, w.2.2.2.2.1.1, w.2.2.2.2.1.2, w.2.2.2.2.2.1, w.2.2.2.2.2.2.1, w.2.2.2.2.2.2.2.1.1, w.2.2.2.2.2.2.2.1.2, w.2.2.2.2.2.2.2.2.1, w.2.2.2.2.2.2.2.2.2.1, w.2.2.2.2.2.2.2.2.2.2.1, w.2.2.2.2.2.2.2.2.2.2.2.1, w.2.2.2.2.2.2.2.2.2.2.2.2.1.1, w.2.2.2.2.2.2.2.2.2.2.2.2.1.2, w.2.2.2.2.2.2.2.2.2.2.2.2.2)
theorem rn_loop {N kk : Nat} {v0 : V10} (hN : 5000 ≤ N) (hk : kk ≤ 2000) (h32 : v0.2.2.2.2.2.1 = 32) : ∀ (d i t : Nat) (v : V8) (w : V11) (lv : Nat → Int32), i + d = kk → w.1.1 = 804 → t + d < 2000000 → STx v w.1.2 t →
    ∃ (v' : V8) (g' lv' : Nat → Int32), (∀ M, d < M → CQ N v0 kk M i v lv = some (nI kk, v'.1, v'.2.1, v'.2.2.1, v'.2.2.2.1, v'.2.2.2.2.1, v'.2.2.2.2.2.1, v'.2.2.2.2.2.2.1, v'.2.2.2.2.2.2.2.1, v'.2.2.2.2.2.2.2.2, lv')) ∧ (∀ M, d < M → CR N kk M i w = some (CRo (nI kk) ((w.1.1, g'), w.2))) ∧ STx v' g' (t + d) := by
  intro d
  induction d with
  | zero =>
    intro i t v w lv hi hz ht h
    have : i = kk := by omega
    subst this
    refine ⟨v, w.1.2, lv, fun M hM => ?_, fun M hM => ?_, h⟩
    · obtain ⟨M, rfl⟩ : ∃ N', M = N' + 1 := ⟨M - 1, by omega⟩
      unfold CQ
      rw [qX10_run_21, if_pos (nI_le (Nat.le_refl _) (by omega))]
    · obtain ⟨M, rfl⟩ : ∃ N', M = N' + 1 := ⟨M - 1, by omega⟩
      unfold CR CRo
      rw [qX11_run_25, if_pos (nI_le (Nat.le_refl _) (by omega))]
  | succ d ih =>
    intro i t v w lv hi hz ht h
    obtain ⟨v1, g1, lv1, a1, a2, a3⟩ := tk_one (N := N) (lv0 := lv) hN hz (by omega) h
    obtain ⟨v', g', lv', b1, b2, b3⟩ := ih (i + 1) (t + 1) v1 ((w.1.1, g1), w.2) lv1 (by omega) hz (by omega) a3
    refine ⟨v', g', lv', fun M hM => ?_, fun M hM => ?_, by rw [show t + (d + 1) = t + 1 + d by omega]; exact b3⟩
    · obtain ⟨M, rfl⟩ : ∃ N', M = N' + 1 := ⟨M - 1, by omega⟩
      rw [← b1 M (by omega)]
      unfold CQ
      rw [qX10_run_21, if_neg (nI_ge (by omega) (by omega)), h32]
      have a1 : sX8_passTick N (v.1, v.2.1, v.2.2.1, v.2.2.2.1, v.2.2.2.2.1, v.2.2.2.2.2.1, v.2.2.2.2.2.2.1, v.2.2.2.2.2.2.2.1, v.2.2.2.2.2.2.2.2) (32, lv) = some (v1, lv1) := a1
      rw [a1, e_bd, e_l1, nI_add]
    · obtain ⟨M, rfl⟩ : ∃ N', M = N' + 1 := ⟨M - 1, by omega⟩
      have := b2 M (by omega)
      refine Eq.trans ?_ this
      unfold CR
      rw [qX11_run_25, if_neg (nI_ge (by omega) (by omega))]
      have a2 : sX11_ticks N ((w.1.1, w.1.2), (w.2.1.1, w.2.1.2), w.2.2.1, w.2.2.2.1, (w.2.2.2.2.1.1, w.2.2.2.2.1.2), w.2.2.2.2.2.1, w.2.2.2.2.2.2.1, (w.2.2.2.2.2.2.2.1.1, w.2.2.2.2.2.2.2.1.2), w.2.2.2.2.2.2.2.2.1, w.2.2.2.2.2.2.2.2.2.1, w.2.2.2.2.2.2.2.2.2.2.1, w.2.2.2.2.2.2.2.2.2.2.2.1, (w.2.2.2.2.2.2.2.2.2.2.2.2.1.1, w.2.2.2.2.2.2.2.2.2.2.2.2.1.2), w.2.2.2.2.2.2.2.2.2.2.2.2.2) = some ((w.1.1, g1), w.2) := a2
      rw [a2, e_bd, e_l1, nI_add]
theorem pu_run {N : Nat} (hN : 5000 ≤ N) : PU_run RR N := by
  intro cn v w p1 hcn h
  by_cases hA : nI 0 ≤ p1 ∧ p1 ≤ nI 2000
  case neg =>
    refine Or.inr ⟨(nI 0, setTh w (nI 1)), ?_, ?_, rfl, h.th (nI 1)⟩
    · simp (disch := omega) only [sX10_run, c_arg, hA, ↓reduceIte, e_lt, e_bd, e_grd, e_clamp, e_l0, e_l1, e_l2, e_l3, e_l4, e_l5, e_l6, e_l7, e_l8, e_l9, e_l10, e_l12, e_l13, e_l20, e_l31, e_l32, e_l45, e_l48, e_l50, e_l57, e_l58, e_l59, e_l64, e_l70, e_l100, e_l106, e_l127, e_l138, e_l554, e_l799, e_l804, e_l1000, e_l2000, e_l2412, e_l100000, e_m1, nI_add, ni_mul, ni_sub, nI_clamp, e_ltT, e_ltF, e_leT, e_leF, e_eqT, e_eqF, e_mE, e_Em, e_mlt, e_mle, e_ltm, e_lem, e_gz, e_gt, e_bs, ite_self, e_el, e_er, tq_get, tq_set, tq_inc, tb_get_neg, tb_set_neg, and_true, true_and, and_false, false_and, not_false_eq_true, not_true_eq_false] <;> rfl
    · simp (disch := omega) only [sX11_run, m_in_0_2000, hA, m_go0, ↓reduceIte, e_lt, e_bd, e_grd, e_clamp, e_l0, e_l1, e_l2, e_l3, e_l4, e_l5, e_l6, e_l7, e_l8, e_l9, e_l10, e_l12, e_l13, e_l20, e_l31, e_l32, e_l45, e_l48, e_l50, e_l57, e_l58, e_l59, e_l64, e_l70, e_l100, e_l106, e_l127, e_l138, e_l554, e_l799, e_l804, e_l1000, e_l2000, e_l2412, e_l100000, e_m1, nI_add, ni_mul, ni_sub, nI_clamp, e_ltT, e_ltF, e_leT, e_leF, e_eqT, e_eqF, e_mE, e_Em, e_mlt, e_mle, e_ltm, e_lem, e_gz, e_gt, e_bs, ite_self, e_el, e_er, tq_get, tq_set, tq_inc, tb_get_neg, tb_set_neg, and_true, true_and, and_false, false_and, not_false_eq_true, not_true_eq_false] <;> rfl
  obtain ⟨kk, -, hk, rfl⟩ := rg_of (by decide) (by decide) hA.1 hA.2
  obtain ⟨hv, sv, m, e1, e2, e3⟩ := sv_both h hN (nI 0)
  have h32 : v.2.2.2.2.2.1 = 32 := h.1.2.2.2.2.2.2.2.2.2.2
  have hz : w.1.1 = 804 := h.1.1
  obtain ⟨-, -, ⟨t1, t2, t, t3, t4⟩, -⟩ := id h
  obtain ⟨v', g', lv', a1, a2, a3⟩ := rn_loop (N := N) (kk := kk) (v0 := v) hN hk h32 kk 0 t v.2.2.1 ((w.1.1, w.1.2), (w.2.1.1, sv), nI m, nI 0, w.2.2.2.2) v.2.2.2.2.2.2 (by omega) hz (by omega) ⟨t1, t2, t4⟩
  have a1 := a1 N (by omega)
  have a2 := a2 N (by omega)
  have gt : g' 0 = nI (t + kk) := a3.2.2.1
  have vt : v'.2.2.2.2.1 = nI (t + kk) := by
    obtain ⟨-, -, -, -, -, fl, th, gp, tl, -, -, -, -, -, q, -⟩ := id a3
    rw [q]
  refine Or.inl ⟨(v'.2.2.2.2.1, (v.1, v.2.1, v', hv, v.2.2.2.2.1, (v.2.2.2.2.2.1, lv'))), (g' 0, ((w.1.1, g'), (w.2.1.1, sv), nI m, nI 0, w.2.2.2.2)), ?_, ?_, rfl, vt.trans gt.symm, ?_⟩
  · unfold CQ at a1
    simp (disch := omega) only [sX10_run, c_arg, e1, a1, ↓reduceIte, e_lt, e_bd, e_grd, e_clamp, e_l0, e_l1, e_l2, e_l3, e_l4, e_l5, e_l6, e_l7, e_l8, e_l9, e_l10, e_l12, e_l13, e_l20, e_l31, e_l32, e_l45, e_l48, e_l50, e_l57, e_l58, e_l59, e_l64, e_l70, e_l100, e_l106, e_l127, e_l138, e_l554, e_l799, e_l804, e_l1000, e_l2000, e_l2412, e_l100000, e_m1, nI_add, ni_mul, ni_sub, nI_clamp, e_ltT, e_ltF, e_leT, e_leF, e_eqT, e_eqF, e_mE, e_Em, e_mlt, e_mle, e_ltm, e_lem, e_gz, e_gt, e_bs, ite_self, e_el, e_er, tq_get, tq_set, tq_inc, tb_get_neg, tb_set_neg, and_true, true_and, and_false, false_and, not_false_eq_true, not_true_eq_false] <;> rfl
  · unfold CR CRo at a2
    simp only [hz] at e2 a2
    simp (disch := omega) only [sX11_run, m_in_0_2000, m_go11, e2, a2, hz, ↓reduceIte, e_lt, e_bd, e_grd, e_clamp, e_l0, e_l1, e_l2, e_l3, e_l4, e_l5, e_l6, e_l7, e_l8, e_l9, e_l10, e_l12, e_l13, e_l20, e_l31, e_l32, e_l45, e_l48, e_l50, e_l57, e_l58, e_l59, e_l64, e_l70, e_l100, e_l106, e_l127, e_l138, e_l554, e_l799, e_l804, e_l1000, e_l2000, e_l2412, e_l100000, e_m1, nI_add, ni_mul, ni_sub, nI_clamp, e_ltT, e_ltF, e_leT, e_leF, e_eqT, e_eqF, e_mE, e_Em, e_mlt, e_mle, e_ltm, e_lem, e_gz, e_gt, e_bs, ite_self, e_el, e_er, tq_get, tq_set, tq_inc, tb_get_neg, tb_set_neg, and_true, true_and, and_false, false_and, not_false_eq_true, not_true_eq_false] <;> rfl
  · obtain ⟨z1, z2, z3, z4, z5, z6, z7, z8, z9, z10, z11⟩ := h.1
    exact ⟨⟨z1, z2, z3, z4, z5, z6, z7, z8, z9, z10, z11⟩, h.2.1, ⟨a3.1, a3.2.1, t + kk, by omega, a3.2.2⟩, m, rfl, e3⟩
