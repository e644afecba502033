/-! the settings, the text, and what only reads -/
theorem RR.up {cn : Nat} {v : V10} {w : V11} (h : RR cn v w) {u : V8} {hv : V3} {g sv : Nat → Int32} {m : Nat} {th : Int32} (hs : ST u g (2000 * (cn + 1))) (hh : Rhist hv sv m (2000 * (cn + 1))) : RR (cn + 1) (v.1, v.2.1, u, hv, v.2.2.2.2.1, v.2.2.2.2.2) ((w.1.1, g), (w.2.1.1, sv), nI m, th, w.2.2.2.2) :=
  ⟨h.1, h.2.1, hs, m, rfl, hh⟩
theorem RR.th {cn : Nat} {v : V10} {w : V11} (h : RR cn v w) (x : Int32) : RR (cn + 1) v (setTh w x) := by
  obtain ⟨h1, h2, h3, m, h4, h5⟩ := h
  exact ⟨h1, h2, h3.mono (by omega), m, h4, h5.mono (by omega)⟩
/-- both sides save -/
theorem sv_both {cn N : Nat} {v : V10} {w : V11} (h : RR cn v w) (hN : 5000 ≤ N) (th : Int32) : ∃ (hv : V3) (sv : Nat → Int32) (m : Nat), sX3_save v.2.2.2.1 v.2.2.1 = some hv ∧ sX11_save N (setTh w th) = some ((w.1.1, w.1.2), (w.2.1.1, sv), nI m, th, w.2.2.2.2) ∧ Rhist hv sv m (2000 * (cn + 1)) := by
  obtain ⟨h1, h2, h3, m, h4, h5⟩ := h
  have hm : m ≤ 4 := by obtain ⟨_, _, q, _⟩ := h5; exact q
  obtain ⟨sv, a1, a2, a3⟩ := m_save (w := setTh w th) (m := m) (N := N) h1.2.1 h1.1 hm h4 hN
  obtain ⟨hv, b1, b2⟩ := hist_save h5 h3 a2 a3
  exact ⟨hv, sv, svd m, b1, a1, b2.mono (by omega)⟩
theorem pu_setLevels {N : Nat} (hN : 5000 ≤ N) : PU_setLevels RR N := by
  intro cn v w p1 p2 hcn h
  by_cases hA : nI 0 ≤ p1 ∧ p1 ≤ nI 100
  · by_cases hB : nI 0 ≤ p2 ∧ p2 ≤ nI 100
    · refine Or.inl ?_
      obtain ⟨hv, sv, m, e1, e2, e3⟩ := sv_both h hN (nI 0)
      have hz : w.1.1 = 804 := h.1.1
      have h0 := h
      obtain ⟨-, -, ⟨t1, t2, t, t3, t4, t5, t6, fl, th, gp, tl, n1, n2, n3, n4, n5, n6, n7, n8, n9, n10⟩, -⟩ := h
      obtain ⟨a, -, ha, rfl⟩ := rg_of (by decide) (by decide) hA.1 hA.2
      obtain ⟨b, -, hb, rfl⟩ := rg_of (by decide) (by decide) hB.1 hB.2
      refine ⟨(v.2.2.1.2.2.2.2.2.2.1, (v.1, v.2.1, (v.2.2.1.1, v.2.2.1.2.1, v.2.2.1.2.2.1, v.2.2.1.2.2.2.1, v.2.2.1.2.2.2.2.1, nI a, nI b, v.2.2.1.2.2.2.2.2.2.2.1, v.2.2.1.2.2.2.2.2.2.2.2), hv, v.2.2.2.2.1, v.2.2.2.2.2)), (w.1.2 2, ((w.1.1, upd (upd w.1.2 1 (nI a)) 2 (nI b)), (w.2.1.1, sv), nI m, nI 0, w.2.2.2.2)), ?_, ?_, rfl, ?_, ?_⟩
      · simp (disch := omega) only [sX10_setLevels, c_arg, e1, ↓reduceIte, e_lt, e_bd, e_grd, e_clamp, e_l0, e_l1, e_l2, e_l3, e_l4, e_l5, e_l6, e_l7, e_l8, e_l9, e_l10, e_l12, e_l13, e_l20, e_l31, e_l32, e_l45, e_l48, e_l50, e_l57, e_l58, e_l59, e_l64, e_l70, e_l100, e_l106, e_l127, e_l138, e_l554, e_l799, e_l804, e_l1000, e_l2000, e_l2412, e_l100000, e_m1, nI_add, ni_mul, ni_sub, nI_clamp, e_ltT, e_ltF, e_leT, e_leF, e_eqT, e_eqF, e_mE, e_Em, e_mlt, e_mle, e_ltm, e_lem, e_gz, e_gt, e_bs, ite_self, e_el, e_er, tq_get, tq_set, tq_inc, tb_get_neg, tb_set_neg, and_true, true_and, and_false, false_and, not_false_eq_true, not_true_eq_false] <;> rfl
      · simp (disch := omega) only [sX11_setLevels, m_isL, m_go11, e2, hz, ↓reduceIte, e_lt, e_bd, e_grd, e_clamp, e_l0, e_l1, e_l2, e_l3, e_l4, e_l5, e_l6, e_l7, e_l8, e_l9, e_l10, e_l12, e_l13, e_l20, e_l31, e_l32, e_l45, e_l48, e_l50, e_l57, e_l58, e_l59, e_l64, e_l70, e_l100, e_l106, e_l127, e_l138, e_l554, e_l799, e_l804, e_l1000, e_l2000, e_l2412, e_l100000, e_m1, nI_add, ni_mul, ni_sub, nI_clamp, e_ltT, e_ltF, e_leT, e_leF, e_eqT, e_eqF, e_mE, e_Em, e_mlt, e_mle, e_ltm, e_lem, e_gz, e_gt, e_bs, ite_self, e_el, e_er, tq_get, tq_set, tq_inc, tb_get_neg, tb_set_neg, and_true, true_and, and_false, false_and, not_false_eq_true, not_true_eq_false] <;> rfl
      · show v.2.2.1.2.2.2.2.2.2.1 = w.1.2 2
        rw [n6, n8]
      · refine RR.up h0 ⟨Rsig_cg (fun k hk => by rw [e_ne (by omega), e_ne (by omega)]) t1, Rpl_cg (fun k hk => by rw [e_ne (by omega), e_ne (by omega)]) t2, t, by omega, ?_, Rdet_cg (fun k hk => by rw [e_ne (by omega), e_ne (by omega)]) t5, Rev_cg (fun k hk => by rw [e_ne (by omega), e_ne (by omega)]) t6, a, b, gp, tl, ha, hb, n3, n4, n5, ?_, ?_, ?_, ?_, ?_⟩ e3
        · rw [e_ne (by omega), e_ne (by omega)]; exact t4
        · rw [n6]
        · rw [e_ne (by omega), e_eq rfl]
        · rw [e_eq rfl]
        · rw [e_ne (by omega), e_ne (by omega)]; exact n9
        · rw [e_ne (by omega), e_ne (by omega)]; exact n10
    · refine Or.inr ⟨(nI 0, setTh w (nI 1)), ?_, ?_, rfl, h.th (nI 1)⟩
      · obtain ⟨a, -, ha, rfl⟩ := rg_of (by decide) (by decide) hA.1 hA.2
        simp (disch := omega) only [sX10_setLevels, c_arg, hB, ↓reduceIte, e_lt, e_bd, e_grd, e_clamp, e_l0, e_l1, e_l2, e_l3, e_l4, e_l5, e_l6, e_l7, e_l8, e_l9, e_l10, e_l12, e_l13, e_l20, e_l31, e_l32, e_l45, e_l48, e_l50, e_l57, e_l58, e_l59, e_l64, e_l70, e_l100, e_l106, e_l127, e_l138, e_l554, e_l799, e_l804, e_l1000, e_l2000, e_l2412, e_l100000, e_m1, nI_add, ni_mul, ni_sub, nI_clamp, e_ltT, e_ltF, e_leT, e_leF, e_eqT, e_eqF, e_mE, e_Em, e_mlt, e_mle, e_ltm, e_lem, e_gz, e_gt, e_bs, ite_self, e_el, e_er, tq_get, tq_set, tq_inc, tb_get_neg, tb_set_neg, and_true, true_and, and_false, false_and, not_false_eq_true, not_true_eq_false] <;> rfl
      · simp (disch := omega) only [sX11_setLevels, m_isL, m_go0, hA, hB, ↓reduceIte, e_lt, e_bd, e_grd, e_clamp, e_l0, e_l1, e_l2, e_l3, e_l4, e_l5, e_l6, e_l7, e_l8, e_l9, e_l10, e_l12, e_l13, e_l20, e_l31, e_l32, e_l45, e_l48, e_l50, e_l57, e_l58, e_l59, e_l64, e_l70, e_l100, e_l106, e_l127, e_l138, e_l554, e_l799, e_l804, e_l1000, e_l2000, e_l2412, e_l100000, e_m1, nI_add, ni_mul, ni_sub, nI_clamp, e_ltT, e_ltF, e_leT, e_leF, e_eqT, e_eqF, e_mE, e_Em, e_mlt, e_mle, e_ltm, e_lem, e_gz, e_gt, e_bs, ite_self, e_el, e_er, tq_get, tq_set, tq_inc, tb_get_neg, tb_set_neg, and_true, true_and, and_false, false_and, not_false_eq_true, not_true_eq_false] <;> rfl
  · refine Or.inr ⟨(nI 0, setTh w (nI 1)), ?_, ?_, rfl, h.th (nI 1)⟩
    · simp (disch := omega) only [sX10_setLevels, c_arg, hA, ↓reduceIte, e_lt, e_bd, e_grd, e_clamp, e_l0, e_l1, e_l2, e_l3, e_l4, e_l5, e_l6, e_l7, e_l8, e_l9, e_l10, e_l12, e_l13, e_l20, e_l31, e_l32, e_l45, e_l48, e_l50, e_l57, e_l58, e_l59, e_l64, e_l70, e_l100, e_l106, e_l127, e_l138, e_l554, e_l799, e_l804, e_l1000, e_l2000, e_l2412, e_l100000, e_m1, nI_add, ni_mul, ni_sub, nI_clamp, e_ltT, e_ltF, e_leT, e_leF, e_eqT, e_eqF, e_mE, e_Em, e_mlt, e_mle, e_ltm, e_lem, e_gz, e_gt, e_bs, ite_self, e_el, e_er, tq_get, tq_set, tq_inc, tb_get_neg, tb_set_neg, and_true, true_and, and_false, false_and, not_false_eq_true, not_true_eq_false] <;> rfl
    · simp (disch := omega) only [sX11_setLevels, m_isL, m_go0, hA, ↓reduceIte, e_lt, e_bd, e_grd, e_clamp, e_l0, e_l1, e_l2, e_l3, e_l4, e_l5, e_l6, e_l7, e_l8, e_l9, e_l10, e_l12, e_l13, e_l20, e_l31, e_l32, e_l45, e_l48, e_l50, e_l57, e_l58, e_l59, e_l64, e_l70, e_l100, e_l106, e_l127, e_l138, e_l554, e_l799, e_l804, e_l1000, e_l2000, e_l2412, e_l100000, e_m1, nI_add, ni_mul, ni_sub, nI_clamp, e_ltT, e_ltF, e_leT, e_leF, e_eqT, e_eqF, e_mE, e_Em, e_mlt, e_mle, e_ltm, e_lem, e_gz, e_gt, e_bs, ite_self, e_el, e_er, tq_get, tq_set, tq_inc, tb_get_neg, tb_set_neg, and_true, true_and, and_false, false_and, not_false_eq_true, not_true_eq_false] <;> rfl
theorem pu_setHops {N : Nat} (hN : 5000 ≤ N) : PU_setHops RR N := by
  intro cn v w p1 p2 hcn h
  by_cases hA : nI 1 ≤ p1 ∧ p1 ≤ nI 1000
  · by_cases hB : nI 0 ≤ p2 ∧ p2 ≤ nI 100
    · refine Or.inl ?_
      obtain ⟨hv, sv, m, e1, e2, e3⟩ := sv_both h hN (nI 0)
      have hz : w.1.1 = 804 := h.1.1
      have h0 := h
      obtain ⟨-, -, ⟨t1, t2, t, t3, t4, t5, t6, fl, th, gp, tl, n1, n2, n3, n4, n5, n6, n7, n8, n9, n10⟩, -⟩ := h
      obtain ⟨a, ha0, ha, rfl⟩ := rg_of (by decide) (by decide) hA.1 hA.2
      obtain ⟨b, -, hb, rfl⟩ := rg_of (by decide) (by decide) hB.1 hB.2
      refine ⟨(v.2.2.1.2.2.2.2.2.2.2.1, (v.1, v.2.1, (v.2.2.1.1, v.2.2.1.2.1, v.2.2.1.2.2.1, v.2.2.1.2.2.2.1, v.2.2.1.2.2.2.2.1, v.2.2.1.2.2.2.2.2.1, v.2.2.1.2.2.2.2.2.2.1, nI a, nI b), hv, v.2.2.2.2.1, v.2.2.2.2.2)), (w.1.2 3, ((w.1.1, upd (upd w.1.2 3 (nI a)) 4 (nI b)), (w.2.1.1, sv), nI m, nI 0, w.2.2.2.2)), ?_, ?_, rfl, ?_, ?_⟩
      · simp (disch := omega) only [sX10_setHops, c_arg, e1, ↓reduceIte, e_lt, e_bd, e_grd, e_clamp, e_l0, e_l1, e_l2, e_l3, e_l4, e_l5, e_l6, e_l7, e_l8, e_l9, e_l10, e_l12, e_l13, e_l20, e_l31, e_l32, e_l45, e_l48, e_l50, e_l57, e_l58, e_l59, e_l64, e_l70, e_l100, e_l106, e_l127, e_l138, e_l554, e_l799, e_l804, e_l1000, e_l2000, e_l2412, e_l100000, e_m1, nI_add, ni_mul, ni_sub, nI_clamp, e_ltT, e_ltF, e_leT, e_leF, e_eqT, e_eqF, e_mE, e_Em, e_mlt, e_mle, e_ltm, e_lem, e_gz, e_gt, e_bs, ite_self, e_el, e_er, tq_get, tq_set, tq_inc, tb_get_neg, tb_set_neg, and_true, true_and, and_false, false_and, not_false_eq_true, not_true_eq_false] <;> rfl
      · simp (disch := omega) only [sX11_setHops, m_in_1_1000, m_in_0_100, m_go11, e2, hz, ↓reduceIte, e_lt, e_bd, e_grd, e_clamp, e_l0, e_l1, e_l2, e_l3, e_l4, e_l5, e_l6, e_l7, e_l8, e_l9, e_l10, e_l12, e_l13, e_l20, e_l31, e_l32, e_l45, e_l48, e_l50, e_l57, e_l58, e_l59, e_l64, e_l70, e_l100, e_l106, e_l127, e_l138, e_l554, e_l799, e_l804, e_l1000, e_l2000, e_l2412, e_l100000, e_m1, nI_add, ni_mul, ni_sub, nI_clamp, e_ltT, e_ltF, e_leT, e_leF, e_eqT, e_eqF, e_mE, e_Em, e_mlt, e_mle, e_ltm, e_lem, e_gz, e_gt, e_bs, ite_self, e_el, e_er, tq_get, tq_set, tq_inc, tb_get_neg, tb_set_neg, and_true, true_and, and_false, false_and, not_false_eq_true, not_true_eq_false] <;> rfl
      · show v.2.2.1.2.2.2.2.2.2.2.1 = w.1.2 3
        rw [n6, n9]
      · refine RR.up h0 ⟨Rsig_cg (fun k hk => by rw [e_ne (by omega), e_ne (by omega)]) t1, Rpl_cg (fun k hk => by rw [e_ne (by omega), e_ne (by omega)]) t2, t, by omega, ?_, Rdet_cg (fun k hk => by rw [e_ne (by omega), e_ne (by omega)]) t5, Rev_cg (fun k hk => by rw [e_ne (by omega), e_ne (by omega)]) t6, fl, th, a, b, n1, n2, ha0, ha, hb, ?_, ?_, ?_, ?_, ?_⟩ e3
        · rw [e_ne (by omega), e_ne (by omega)]; exact t4
        · rw [n6]
        · rw [e_ne (by omega), e_ne (by omega)]; exact n7
        · rw [e_ne (by omega), e_ne (by omega)]; exact n8
        · rw [e_ne (by omega), e_eq rfl]
        · rw [e_eq rfl]
    · refine Or.inr ⟨(nI 0, setTh w (nI 1)), ?_, ?_, rfl, h.th (nI 1)⟩
      · obtain ⟨a, -, ha, rfl⟩ := rg_of (by decide) (by decide) hA.1 hA.2
        simp (disch := omega) only [sX10_setHops, c_arg, hB, hA, ↓reduceIte, e_lt, e_bd, e_grd, e_clamp, e_l0, e_l1, e_l2, e_l3, e_l4, e_l5, e_l6, e_l7, e_l8, e_l9, e_l10, e_l12, e_l13, e_l20, e_l31, e_l32, e_l45, e_l48, e_l50, e_l57, e_l58, e_l59, e_l64, e_l70, e_l100, e_l106, e_l127, e_l138, e_l554, e_l799, e_l804, e_l1000, e_l2000, e_l2412, e_l100000, e_m1, nI_add, ni_mul, ni_sub, nI_clamp, e_ltT, e_ltF, e_leT, e_leF, e_eqT, e_eqF, e_mE, e_Em, e_mlt, e_mle, e_ltm, e_lem, e_gz, e_gt, e_bs, ite_self, e_el, e_er, tq_get, tq_set, tq_inc, tb_get_neg, tb_set_neg, and_true, true_and, and_false, false_and, not_false_eq_true, not_true_eq_false] <;> rfl
      · simp (disch := omega) only [sX11_setHops, m_in_1_1000, m_in_0_100, m_go0, hA, hB, ↓reduceIte, e_lt, e_bd, e_grd, e_clamp, e_l0, e_l1, e_l2, e_l3, e_l4, e_l5, e_l6, e_l7, e_l8, e_l9, e_l10, e_l12, e_l13, e_l20, e_l31, e_l32, e_l45, e_l48, e_l50, e_l57, e_l58, e_l59, e_l64, e_l70, e_l100, e_l106, e_l127, e_l138, e_l554, e_l799, e_l804, e_l1000, e_l2000, e_l2412, e_l100000, e_m1, nI_add, ni_mul, ni_sub, nI_clamp, e_ltT, e_ltF, e_leT, e_leF, e_eqT, e_eqF, e_mE, e_Em, e_mlt, e_mle, e_ltm, e_lem, e_gz, e_gt, e_bs, ite_self, e_el, e_er, tq_get, tq_set, tq_inc, tb_get_neg, tb_set_neg, and_true, true_and, and_false, false_and, not_false_eq_true, not_true_eq_false] <;> rfl
  · refine Or.inr ⟨(nI 0, setTh w (nI 1)), ?_, ?_, rfl, h.th (nI 1)⟩
    · simp (disch := omega) only [sX10_setHops, c_arg, hA, ↓reduceIte, e_lt, e_bd, e_grd, e_clamp, e_l0, e_l1, e_l2, e_l3, e_l4, e_l5, e_l6, e_l7, e_l8, e_l9, e_l10, e_l12, e_l13, e_l20, e_l31, e_l32, e_l45, e_l48, e_l50, e_l57, e_l58, e_l59, e_l64, e_l70, e_l100, e_l106, e_l127, e_l138, e_l554, e_l799, e_l804, e_l1000, e_l2000, e_l2412, e_l100000, e_m1, nI_add, ni_mul, ni_sub, nI_clamp, e_ltT, e_ltF, e_leT, e_leF, e_eqT, e_eqF, e_mE, e_Em, e_mlt, e_mle, e_ltm, e_lem, e_gz, e_gt, e_bs, ite_self, e_el, e_er, tq_get, tq_set, tq_inc, tb_get_neg, tb_set_neg, and_true, true_and, and_false, false_and, not_false_eq_true, not_true_eq_false] <;> rfl
    · simp (disch := omega) only [sX11_setHops, m_in_1_1000, m_in_0_100, m_go0, hA, ↓reduceIte, e_lt, e_bd, e_grd, e_clamp, e_l0, e_l1, e_l2, e_l3, e_l4, e_l5, e_l6, e_l7, e_l8, e_l9, e_l10, e_l12, e_l13, e_l20, e_l31, e_l32, e_l45, e_l48, e_l50, e_l57, e_l58, e_l59, e_l64, e_l70, e_l100, e_l106, e_l127, e_l138, e_l554, e_l799, e_l804, e_l1000, e_l2000, e_l2412, e_l100000, e_m1, nI_add, ni_mul, ni_sub, nI_clamp, e_ltT, e_ltF, e_leT, e_leF, e_eqT, e_eqF, e_mE, e_Em, e_mlt, e_mle, e_ltm, e_lem, e_gz, e_gt, e_bs, ite_self, e_el, e_er, tq_get, tq_set, tq_inc, tb_get_neg, tb_set_neg, and_true, true_and, and_false, false_and, not_false_eq_true, not_true_eq_false] <;> rfl
theorem pu_clearText {N : Nat} : PU_clearText RR N := by
  intro cn v w hcn h
  refine ⟨_, _, rfl, rfl, ?_, ?_⟩
  · obtain ⟨-, ⟨-, n, -, e1, e2, -⟩, -⟩ := h
    exact e1.trans e2.symm
  · obtain ⟨h1, h2, h3, m, h4, h5⟩ := h
    exact ⟨h1, ⟨h2.1, 0, by omega, rfl, rfl, fun k hk => by omega⟩, h3.mono (by omega), m, h4, h5.mono (by omega)⟩
theorem pu_append {N : Nat} : PU_append RR N := by
  intro cn v w p1 hcn h
  by_cases hA : nI 0 ≤ p1 ∧ p1 ≤ nI 127
  · obtain ⟨h1, ⟨h2, n, h6, h7, h8, h9⟩, h3, m, h4, h5⟩ := h
    have h0 : RR cn v w := ⟨h1, ⟨h2, n, h6, h7, h8, h9⟩, h3, m, h4, h5⟩
    have hz : w.2.2.2.2.1.1 = 100 := h1.2.2.1
    by_cases hB : n < 100
    · refine Or.inl ?_
      obtain ⟨a, -, ha, rfl⟩ := rg_of (by decide) (by decide) hA.1 hA.2
      refine ⟨(nI (n + 1), (((v.1.1.1.1, upd v.1.1.1.2 n (nI a)), nI (n + 1)), v.1.2.1, v.1.2.2.1, v.1.2.2.2), v.2.1, v.2.2.1, v.2.2.2.1, v.2.2.2.2.1, v.2.2.2.2.2), (nI (n + 1), (w.1, w.2.1, w.2.2.1, nI 0, (w.2.2.2.2.1.1, upd w.2.2.2.2.1.2 n (nI a)), nI (n + 1), w.2.2.2.2.2.2)), ?_, ?_, rfl, rfl, ?_⟩
      · simp (disch := omega) only [sX10_append, c_arg, h7, sX0_put, c_within, h2, ↓reduceIte, e_lt, e_bd, e_grd, e_clamp, e_l0, e_l1, e_l2, e_l3, e_l4, e_l5, e_l6, e_l7, e_l8, e_l9, e_l10, e_l12, e_l13, e_l20, e_l31, e_l32, e_l45, e_l48, e_l50, e_l57, e_l58, e_l59, e_l64, e_l70, e_l100, e_l106, e_l127, e_l138, e_l554, e_l799, e_l804, e_l1000, e_l2000, e_l2412, e_l100000, e_m1, nI_add, ni_mul, ni_sub, nI_clamp, e_ltT, e_ltF, e_leT, e_leF, e_eqT, e_eqF, e_mE, e_Em, e_mlt, e_mle, e_ltm, e_lem, e_gz, e_gt, e_bs, ite_self, e_el, e_er, tq_get, tq_set, tq_inc, tb_get_neg, tb_set_neg, and_true, true_and, and_false, false_and, not_false_eq_true, not_true_eq_false] <;> rfl
      · simp (disch := omega) only [sX11_append, m_in_0_127, h8, m_go11, setTh, hz, ↓reduceIte, e_lt, e_bd, e_grd, e_clamp, e_l0, e_l1, e_l2, e_l3, e_l4, e_l5, e_l6, e_l7, e_l8, e_l9, e_l10, e_l12, e_l13, e_l20, e_l31, e_l32, e_l45, e_l48, e_l50, e_l57, e_l58, e_l59, e_l64, e_l70, e_l100, e_l106, e_l127, e_l138, e_l554, e_l799, e_l804, e_l1000, e_l2000, e_l2412, e_l100000, e_m1, nI_add, ni_mul, ni_sub, nI_clamp, e_ltT, e_ltF, e_leT, e_leF, e_eqT, e_eqF, e_mE, e_Em, e_mlt, e_mle, e_ltm, e_lem, e_gz, e_gt, e_bs, ite_self, e_el, e_er, tq_get, tq_set, tq_inc, tb_get_neg, tb_set_neg, and_true, true_and, and_false, false_and, not_false_eq_true, not_true_eq_false] <;> rfl
      · refine ⟨h1, ⟨h2, n + 1, by omega, rfl, rfl, fun k hk => ?_⟩, h3.mono (by omega), m, h4, h5.mono (by omega)⟩
        by_cases e : k = n
        · refine ⟨?_, a, by omega, ?_⟩
          · show upd _ n _ k = upd _ n _ k
            rw [e_eq e, e_eq e]
          · show upd _ n _ k = _
            rw [e_eq e]
        · obtain ⟨q1, c, q2, q3⟩ := h9 k (by omega)
          refine ⟨?_, c, q2, ?_⟩
          · show upd _ n _ k = upd _ n _ k
            rw [e_ne e, e_ne e]
            exact q1
          · show upd _ n _ k = _
            rw [e_ne e]
            exact q3
    · refine Or.inr (Or.inr ⟨(nI 0, setTh w (nI 2)), ?_, ?_, rfl, h0.th (nI 2)⟩)
      · obtain ⟨a, -, ha, rfl⟩ := rg_of (by decide) (by decide) hA.1 hA.2
        simp (disch := omega) only [sX10_append, c_arg, h7, ↓reduceIte, e_lt, e_bd, e_grd, e_clamp, e_l0, e_l1, e_l2, e_l3, e_l4, e_l5, e_l6, e_l7, e_l8, e_l9, e_l10, e_l12, e_l13, e_l20, e_l31, e_l32, e_l45, e_l48, e_l50, e_l57, e_l58, e_l59, e_l64, e_l70, e_l100, e_l106, e_l127, e_l138, e_l554, e_l799, e_l804, e_l1000, e_l2000, e_l2412, e_l100000, e_m1, nI_add, ni_mul, ni_sub, nI_clamp, e_ltT, e_ltF, e_leT, e_leF, e_eqT, e_eqF, e_mE, e_Em, e_mlt, e_mle, e_ltm, e_lem, e_gz, e_gt, e_bs, ite_self, e_el, e_er, tq_get, tq_set, tq_inc, tb_get_neg, tb_set_neg, and_true, true_and, and_false, false_and, not_false_eq_true, not_true_eq_false] <;> rfl
      · simp (disch := omega) only [sX11_append, m_in_0_127, h8, hA, m_go10, ↓reduceIte, e_lt, e_bd, e_grd, e_clamp, e_l0, e_l1, e_l2, e_l3, e_l4, e_l5, e_l6, e_l7, e_l8, e_l9, e_l10, e_l12, e_l13, e_l20, e_l31, e_l32, e_l45, e_l48, e_l50, e_l57, e_l58, e_l59, e_l64, e_l70, e_l100, e_l106, e_l127, e_l138, e_l554, e_l799, e_l804, e_l1000, e_l2000, e_l2412, e_l100000, e_m1, nI_add, ni_mul, ni_sub, nI_clamp, e_ltT, e_ltF, e_leT, e_leF, e_eqT, e_eqF, e_mE, e_Em, e_mlt, e_mle, e_ltm, e_lem, e_gz, e_gt, e_bs, ite_self, e_el, e_er, tq_get, tq_set, tq_inc, tb_get_neg, tb_set_neg, and_true, true_and, and_false, false_and, not_false_eq_true, not_true_eq_false] <;> rfl
  · refine Or.inr (Or.inl ⟨(nI 0, setTh w (nI 1)), ?_, ?_, rfl, h.th (nI 1)⟩)
    · simp (disch := omega) only [sX10_append, c_arg, hA, ↓reduceIte, e_lt, e_bd, e_grd, e_clamp, e_l0, e_l1, e_l2, e_l3, e_l4, e_l5, e_l6, e_l7, e_l8, e_l9, e_l10, e_l12, e_l13, e_l20, e_l31, e_l32, e_l45, e_l48, e_l50, e_l57, e_l58, e_l59, e_l64, e_l70, e_l100, e_l106, e_l127, e_l138, e_l554, e_l799, e_l804, e_l1000, e_l2000, e_l2412, e_l100000, e_m1, nI_add, ni_mul, ni_sub, nI_clamp, e_ltT, e_ltF, e_leT, e_leF, e_eqT, e_eqF, e_mE, e_Em, e_mlt, e_mle, e_ltm, e_lem, e_gz, e_gt, e_bs, ite_self, e_el, e_er, tq_get, tq_set, tq_inc, tb_get_neg, tb_set_neg, and_true, true_and, and_false, false_and, not_false_eq_true, not_true_eq_false] <;> rfl
    · simp only [sX11_append, m_in_0_127, if_neg hA, Option.bind_some, m_go0]
      split <;> rfl
theorem pu_steps {N : Nat} : PU_steps RR N := by
  intro cn v w hcn h
  have hz : w.1.1 = 804 := h.1.1
  refine ⟨v.2.2.1.2.1.2.1, (w.1.2 6, setTh w (nI 0)), rfl, ?_, ?_, h.th (nI 0)⟩
  · simp (disch := omega) only [sX11_steps, hz, setTh, ↓reduceIte, e_lt, e_bd, e_grd, e_clamp, e_l0, e_l1, e_l2, e_l3, e_l4, e_l5, e_l6, e_l7, e_l8, e_l9, e_l10, e_l12, e_l13, e_l20, e_l31, e_l32, e_l45, e_l48, e_l50, e_l57, e_l58, e_l59, e_l64, e_l70, e_l100, e_l106, e_l127, e_l138, e_l554, e_l799, e_l804, e_l1000, e_l2000, e_l2412, e_l100000, e_m1, nI_add, ni_mul, ni_sub, nI_clamp, e_ltT, e_ltF, e_leT, e_leF, e_eqT, e_eqF, e_mE, e_Em, e_mlt, e_mle, e_ltm, e_lem, e_gz, e_gt, e_bs, ite_self, e_el, e_er, tq_get, tq_set, tq_inc, tb_get_neg, tb_set_neg, and_true, true_and, and_false, false_and, not_false_eq_true, not_true_eq_false] <;> rfl
  · obtain ⟨-, -, ⟨-, ⟨-, n, p, el, -, e1, e2, -⟩, -⟩, -⟩ := h
    exact e1.trans e2.symm
theorem pu_events {N : Nat} : PU_events RR N := by
  intro cn v w hcn h
  have hz : w.1.1 = 804 := h.1.1
  refine ⟨v.2.2.1.2.2.2.1.2.2.2, (w.1.2 9, setTh w (nI 0)), rfl, ?_, ?_, h.th (nI 0)⟩
  · simp (disch := omega) only [sX11_events, hz, setTh, ↓reduceIte, e_lt, e_bd, e_grd, e_clamp, e_l0, e_l1, e_l2, e_l3, e_l4, e_l5, e_l6, e_l7, e_l8, e_l9, e_l10, e_l12, e_l13, e_l20, e_l31, e_l32, e_l45, e_l48, e_l50, e_l57, e_l58, e_l59, e_l64, e_l70, e_l100, e_l106, e_l127, e_l138, e_l554, e_l799, e_l804, e_l1000, e_l2000, e_l2412, e_l100000, e_m1, nI_add, ni_mul, ni_sub, nI_clamp, e_ltT, e_ltF, e_leT, e_leF, e_eqT, e_eqF, e_mE, e_Em, e_mlt, e_mle, e_ltm, e_lem, e_gz, e_gt, e_bs, ite_self, e_el, e_er, tq_get, tq_set, tq_inc, tb_get_neg, tb_set_neg, and_true, true_and, and_false, false_and, not_false_eq_true, not_true_eq_false] <;> rfl
  · obtain ⟨-, -, ⟨-, -, t, -, -, -, ⟨-, -, -, n, od, -, e1, e2, -⟩, -⟩, -⟩ := h
    exact e1.trans e2.symm
/-- the next step, on both sides -/
theorem nx_both {v : V5} {w : V11} (h : Rpl v w.1.2) (hz : w.1.1 = 804) : ∃ x, sX5_nextStep v = some x ∧ sX11_stepNow w = some x := by
  obtain ⟨h00, n, p, el, h0, h1, h2, h3, h4, -⟩ := h
  by_cases hn : n = 0
  · subst hn
    refine ⟨m1, ?_, ?_⟩
    · simp (disch := omega) only [sX5_nextStep, h1, ↓reduceIte, e_lt, e_bd, e_grd, e_clamp, e_l0, e_l1, e_l2, e_l3, e_l4, e_l5, e_l6, e_l7, e_l8, e_l9, e_l10, e_l12, e_l13, e_l20, e_l31, e_l32, e_l45, e_l48, e_l50, e_l57, e_l58, e_l59, e_l64, e_l70, e_l100, e_l106, e_l127, e_l138, e_l554, e_l799, e_l804, e_l1000, e_l2000, e_l2412, e_l100000, e_m1, nI_add, ni_mul, ni_sub, nI_clamp, e_ltT, e_ltF, e_leT, e_leF, e_eqT, e_eqF, e_mE, e_Em, e_mlt, e_mle, e_ltm, e_lem, e_gz, e_gt, e_bs, ite_self, e_el, e_er, tq_get, tq_set, tq_inc, tb_get_neg, tb_set_neg, and_true, true_and, and_false, false_and, not_false_eq_true, not_true_eq_false] <;> rfl
    · simp (disch := omega) only [sX11_stepNow, hz, h2, ↓reduceIte, e_lt, e_bd, e_grd, e_clamp, e_l0, e_l1, e_l2, e_l3, e_l4, e_l5, e_l6, e_l7, e_l8, e_l9, e_l10, e_l12, e_l13, e_l20, e_l31, e_l32, e_l45, e_l48, e_l50, e_l57, e_l58, e_l59, e_l64, e_l70, e_l100, e_l106, e_l127, e_l138, e_l554, e_l799, e_l804, e_l1000, e_l2000, e_l2412, e_l100000, e_m1, nI_add, ni_mul, ni_sub, nI_clamp, e_ltT, e_ltF, e_leT, e_leF, e_eqT, e_eqF, e_mE, e_Em, e_mlt, e_mle, e_ltm, e_lem, e_gz, e_gt, e_bs, ite_self, e_el, e_er, tq_get, tq_set, tq_inc, tb_get_neg, tb_set_neg, and_true, true_and, and_false, false_and, not_false_eq_true, not_true_eq_false] <;> rfl
  · refine ⟨nI p, ?_, ?_⟩
    · simp (disch := omega) only [sX5_nextStep, h1, h3, ↓reduceIte, e_lt, e_bd, e_grd, e_clamp, e_l0, e_l1, e_l2, e_l3, e_l4, e_l5, e_l6, e_l7, e_l8, e_l9, e_l10, e_l12, e_l13, e_l20, e_l31, e_l32, e_l45, e_l48, e_l50, e_l57, e_l58, e_l59, e_l64, e_l70, e_l100, e_l106, e_l127, e_l138, e_l554, e_l799, e_l804, e_l1000, e_l2000, e_l2412, e_l100000, e_m1, nI_add, ni_mul, ni_sub, nI_clamp, e_ltT, e_ltF, e_leT, e_leF, e_eqT, e_eqF, e_mE, e_Em, e_mlt, e_mle, e_ltm, e_lem, e_gz, e_gt, e_bs, ite_self, e_el, e_er, tq_get, tq_set, tq_inc, tb_get_neg, tb_set_neg, and_true, true_and, and_false, false_and, not_false_eq_true, not_true_eq_false] <;> rfl
    · simp (disch := omega) only [sX11_stepNow, hz, h2, h4, ↓reduceIte, e_lt, e_bd, e_grd, e_clamp, e_l0, e_l1, e_l2, e_l3, e_l4, e_l5, e_l6, e_l7, e_l8, e_l9, e_l10, e_l12, e_l13, e_l20, e_l31, e_l32, e_l45, e_l48, e_l50, e_l57, e_l58, e_l59, e_l64, e_l70, e_l100, e_l106, e_l127, e_l138, e_l554, e_l799, e_l804, e_l1000, e_l2000, e_l2412, e_l100000, e_m1, nI_add, ni_mul, ni_sub, nI_clamp, e_ltT, e_ltF, e_leT, e_leF, e_eqT, e_eqF, e_mE, e_Em, e_mlt, e_mle, e_ltm, e_lem, e_gz, e_gt, e_bs, ite_self, e_el, e_er, tq_get, tq_set, tq_inc, tb_get_neg, tb_set_neg, and_true, true_and, and_false, false_and, not_false_eq_true, not_true_eq_false] <;> rfl
theorem pu_presentStep {N : Nat} : PU_presentStep RR N := by
  intro cn v w hcn h
  obtain ⟨x, e1, e2⟩ := nx_both (v := v.2.2.1.2.1) (w := setTh w (nI 0)) h.2.2.1.2.1 h.1.1
  refine ⟨x, (x, setTh w (nI 0)), ?_, ?_, rfl, h.th (nI 0)⟩
  · unfold sX10_presentStep
    rw [e1]
    rfl
  · unfold sX11_presentStep
    show ((sX11_stepNow (setTh w (nI 0))).bind _) = _
    rw [e2]
    rfl
theorem pu_step {N : Nat} : PU_step RR N := by
  intro cn v w p1 p2 hcn h
  have hz : w.1.1 = 804 := h.1.1
  obtain ⟨-, -, ⟨-, ⟨hT, n, p, el, hn, e1, e2, -, -, -, -, -, -, -, -, hk, -⟩, -⟩, -⟩ := id h
  by_cases hA : nI 0 ≤ p1 ∧ p1 < nI n
  · obtain ⟨a, ha, rfl⟩ := rg_lt (by omega) hA.1 hA.2
    by_cases hB : nI 0 ≤ p2 ∧ p2 ≤ nI 2
    · obtain ⟨b, -, hb, rfl⟩ := rg_of (by decide) (by decide) hB.1 hB.2
      refine Or.inl ⟨v.2.2.1.2.1.1.2.2.2 (a * 3 + b), (w.1.2 (70 + 3 * a + b), setTh w (nI 0)), ?_, ?_, rfl, ?_, h.th (nI 0)⟩
      · simp (disch := omega) only [sX10_step, c_idx, c_arg, e1, tb_get hT, ↓reduceIte, e_lt, e_bd, e_grd, e_clamp, e_l0, e_l1, e_l2, e_l3, e_l4, e_l5, e_l6, e_l7, e_l8, e_l9, e_l10, e_l12, e_l13, e_l20, e_l31, e_l32, e_l45, e_l48, e_l50, e_l57, e_l58, e_l59, e_l64, e_l70, e_l100, e_l106, e_l127, e_l138, e_l554, e_l799, e_l804, e_l1000, e_l2000, e_l2412, e_l100000, e_m1, nI_add, ni_mul, ni_sub, nI_clamp, e_ltT, e_ltF, e_leT, e_leF, e_eqT, e_eqF, e_mE, e_Em, e_mlt, e_mle, e_ltm, e_lem, e_gz, e_gt, e_bs, ite_self, e_el, e_er, tq_get, tq_set, tq_inc, tb_get_neg, tb_set_neg, and_true, true_and, and_false, false_and, not_false_eq_true, not_true_eq_false] <;> rfl
      · simp (disch := omega) only [sX11_step, e2, hz, m_inx, m_in_0_2, e_k0, e_k1, e_k2, e_k3, e_k4, e_k5, e_k6, e_k7, e_k8, e_k9]
        simp (disch := omega) only [hA, hB, m_go11, setTh, hz, ↓reduceIte, e_lt, e_bd, e_grd, e_clamp, e_l0, e_l1, e_l2, e_l3, e_l4, e_l5, e_l6, e_l7, e_l8, e_l9, e_l10, e_l12, e_l13, e_l20, e_l31, e_l32, e_l45, e_l48, e_l50, e_l57, e_l58, e_l59, e_l64, e_l70, e_l100, e_l106, e_l127, e_l138, e_l554, e_l799, e_l804, e_l1000, e_l2000, e_l2412, e_l100000, e_m1, nI_add, ni_mul, ni_sub, nI_clamp, e_ltT, e_ltF, e_leT, e_leF, e_eqT, e_eqF, e_mE, e_Em, e_mlt, e_mle, e_ltm, e_lem, e_gz, e_gt, e_bs, ite_self, e_el, e_er, tq_get, tq_set, tq_inc, tb_get_neg, tb_set_neg, and_true, true_and, and_false, false_and, not_false_eq_true, not_true_eq_false] <;> rfl
      · exact hk a b ha (by omega)
    · refine Or.inr (Or.inr ⟨(nI 0, setTh w (nI 2)), ?_, ?_, rfl, h.th (nI 2)⟩)
      · simp (disch := omega) only [sX10_step, c_idx, c_arg, e1, hA, hB, ↓reduceIte, e_lt, e_bd, e_grd, e_clamp, e_l0, e_l1, e_l2, e_l3, e_l4, e_l5, e_l6, e_l7, e_l8, e_l9, e_l10, e_l12, e_l13, e_l20, e_l31, e_l32, e_l45, e_l48, e_l50, e_l57, e_l58, e_l59, e_l64, e_l70, e_l100, e_l106, e_l127, e_l138, e_l554, e_l799, e_l804, e_l1000, e_l2000, e_l2412, e_l100000, e_m1, nI_add, ni_mul, ni_sub, nI_clamp, e_ltT, e_ltF, e_leT, e_leF, e_eqT, e_eqF, e_mE, e_Em, e_mlt, e_mle, e_ltm, e_lem, e_gz, e_gt, e_bs, ite_self, e_el, e_er, tq_get, tq_set, tq_inc, tb_get_neg, tb_set_neg, and_true, true_and, and_false, false_and, not_false_eq_true, not_true_eq_false] <;> rfl
      · simp (disch := omega) only [sX11_step, e2, hz, m_inx, m_in_0_2, e_k0, e_k1, e_k2, e_k3, e_k4, e_k5, e_k6, e_k7, e_k8, e_k9]
        simp (disch := omega) only [hA, hB, m_go10, hz, ↓reduceIte, e_lt, e_bd, e_grd, e_clamp, e_l0, e_l1, e_l2, e_l3, e_l4, e_l5, e_l6, e_l7, e_l8, e_l9, e_l10, e_l12, e_l13, e_l20, e_l31, e_l32, e_l45, e_l48, e_l50, e_l57, e_l58, e_l59, e_l64, e_l70, e_l100, e_l106, e_l127, e_l138, e_l554, e_l799, e_l804, e_l1000, e_l2000, e_l2412, e_l100000, e_m1, nI_add, ni_mul, ni_sub, nI_clamp, e_ltT, e_ltF, e_leT, e_leF, e_eqT, e_eqF, e_mE, e_Em, e_mlt, e_mle, e_ltm, e_lem, e_gz, e_gt, e_bs, ite_self, e_el, e_er, tq_get, tq_set, tq_inc, tb_get_neg, tb_set_neg, and_true, true_and, and_false, false_and, not_false_eq_true, not_true_eq_false] <;> rfl
  · refine Or.inr (Or.inl ⟨(nI 0, setTh w (nI 1)), ?_, ?_, rfl, h.th (nI 1)⟩)
    · simp (disch := omega) only [sX10_step, c_idx, e1, hA, ↓reduceIte, e_lt, e_bd, e_grd, e_clamp, e_l0, e_l1, e_l2, e_l3, e_l4, e_l5, e_l6, e_l7, e_l8, e_l9, e_l10, e_l12, e_l13, e_l20, e_l31, e_l32, e_l45, e_l48, e_l50, e_l57, e_l58, e_l59, e_l64, e_l70, e_l100, e_l106, e_l127, e_l138, e_l554, e_l799, e_l804, e_l1000, e_l2000, e_l2412, e_l100000, e_m1, nI_add, ni_mul, ni_sub, nI_clamp, e_ltT, e_ltF, e_leT, e_leF, e_eqT, e_eqF, e_mE, e_Em, e_mlt, e_mle, e_ltm, e_lem, e_gz, e_gt, e_bs, ite_self, e_el, e_er, tq_get, tq_set, tq_inc, tb_get_neg, tb_set_neg, and_true, true_and, and_false, false_and, not_false_eq_true, not_true_eq_false] <;> rfl
    · simp (disch := omega) only [sX11_step, e2, hz, m_inx, m_in_0_2, e_k0, e_k1, e_k2, e_k3, e_k4, e_k5, e_k6, e_k7, e_k8, e_k9]
      simp (disch := omega) only [hA, m_go0, hz, ↓reduceIte, e_lt, e_bd, e_grd, e_clamp, e_l0, e_l1, e_l2, e_l3, e_l4, e_l5, e_l6, e_l7, e_l8, e_l9, e_l10, e_l12, e_l13, e_l20, e_l31, e_l32, e_l45, e_l48, e_l50, e_l57, e_l58, e_l59, e_l64, e_l70, e_l100, e_l106, e_l127, e_l138, e_l554, e_l799, e_l804, e_l1000, e_l2000, e_l2412, e_l100000, e_m1, nI_add, ni_mul, ni_sub, nI_clamp, e_ltT, e_ltF, e_leT, e_leF, e_eqT, e_eqF, e_mE, e_Em, e_mlt, e_mle, e_ltm, e_lem, e_gz, e_gt, e_bs, ite_self, e_el, e_er, tq_get, tq_set, tq_inc, tb_get_neg, tb_set_neg, and_true, true_and, and_false, false_and, not_false_eq_true, not_true_eq_false] <;> rfl
theorem pu_detector {N : Nat} : PU_detector RR N := by
  intro cn v w p1 p2 hcn h
  have hz : w.1.1 = 804 := h.1.1
  obtain ⟨-, -, ⟨-, -, t, -, -, ⟨hT, -, -, -, hk, -⟩, -⟩, -⟩ := id h
  by_cases hA : nI 0 ≤ p1 ∧ p1 < nI 32
  · obtain ⟨a, ha, rfl⟩ := rg_lt (by decide) hA.1 hA.2
    by_cases hB : nI 0 ≤ p2 ∧ p2 ≤ nI 3
    · obtain ⟨b, -, hb, rfl⟩ := rg_of (by decide) (by decide) hB.1 hB.2
      refine Or.inl ⟨v.2.2.1.2.2.1.1.2.2.2 (a * 4 + b), (w.1.2 (138 + 13 * a + b), setTh w (nI 0)), ?_, ?_, rfl, ?_, h.th (nI 0)⟩
      · simp (disch := omega) only [sX10_detector, c_idx, c_arg, tb_get hT, ↓reduceIte, e_lt, e_bd, e_grd, e_clamp, e_l0, e_l1, e_l2, e_l3, e_l4, e_l5, e_l6, e_l7, e_l8, e_l9, e_l10, e_l12, e_l13, e_l20, e_l31, e_l32, e_l45, e_l48, e_l50, e_l57, e_l58, e_l59, e_l64, e_l70, e_l100, e_l106, e_l127, e_l138, e_l554, e_l799, e_l804, e_l1000, e_l2000, e_l2412, e_l100000, e_m1, nI_add, ni_mul, ni_sub, nI_clamp, e_ltT, e_ltF, e_leT, e_leF, e_eqT, e_eqF, e_mE, e_Em, e_mlt, e_mle, e_ltm, e_lem, e_gz, e_gt, e_bs, ite_self, e_el, e_er, tq_get, tq_set, tq_inc, tb_get_neg, tb_set_neg, and_true, true_and, and_false, false_and, not_false_eq_true, not_true_eq_false] <;> rfl
      · simp (disch := omega) only [sX11_detector, m_isC', m_in_0_3, hA, hB, m_go11, setTh, hz, ↓reduceIte, e_lt, e_bd, e_grd, e_clamp, e_l0, e_l1, e_l2, e_l3, e_l4, e_l5, e_l6, e_l7, e_l8, e_l9, e_l10, e_l12, e_l13, e_l20, e_l31, e_l32, e_l45, e_l48, e_l50, e_l57, e_l58, e_l59, e_l64, e_l70, e_l100, e_l106, e_l127, e_l138, e_l554, e_l799, e_l804, e_l1000, e_l2000, e_l2412, e_l100000, e_m1, nI_add, ni_mul, ni_sub, nI_clamp, e_ltT, e_ltF, e_leT, e_leF, e_eqT, e_eqF, e_mE, e_Em, e_mlt, e_mle, e_ltm, e_lem, e_gz, e_gt, e_bs, ite_self, e_el, e_er, tq_get, tq_set, tq_inc, tb_get_neg, tb_set_neg, and_true, true_and, and_false, false_and, not_false_eq_true, not_true_eq_false] <;> rfl
      · exact hk a b ha (by omega)
    · refine Or.inr (Or.inr ⟨(nI 0, setTh w (nI 2)), ?_, ?_, rfl, h.th (nI 2)⟩)
      · simp (disch := omega) only [sX10_detector, c_idx, c_arg, hA, hB, ↓reduceIte, e_lt, e_bd, e_grd, e_clamp, e_l0, e_l1, e_l2, e_l3, e_l4, e_l5, e_l6, e_l7, e_l8, e_l9, e_l10, e_l12, e_l13, e_l20, e_l31, e_l32, e_l45, e_l48, e_l50, e_l57, e_l58, e_l59, e_l64, e_l70, e_l100, e_l106, e_l127, e_l138, e_l554, e_l799, e_l804, e_l1000, e_l2000, e_l2412, e_l100000, e_m1, nI_add, ni_mul, ni_sub, nI_clamp, e_ltT, e_ltF, e_leT, e_leF, e_eqT, e_eqF, e_mE, e_Em, e_mlt, e_mle, e_ltm, e_lem, e_gz, e_gt, e_bs, ite_self, e_el, e_er, tq_get, tq_set, tq_inc, tb_get_neg, tb_set_neg, and_true, true_and, and_false, false_and, not_false_eq_true, not_true_eq_false] <;> rfl
      · simp (disch := omega) only [sX11_detector, m_isC', m_in_0_3, hA, hB, m_go10, hz, ↓reduceIte, e_lt, e_bd, e_grd, e_clamp, e_l0, e_l1, e_l2, e_l3, e_l4, e_l5, e_l6, e_l7, e_l8, e_l9, e_l10, e_l12, e_l13, e_l20, e_l31, e_l32, e_l45, e_l48, e_l50, e_l57, e_l58, e_l59, e_l64, e_l70, e_l100, e_l106, e_l127, e_l138, e_l554, e_l799, e_l804, e_l1000, e_l2000, e_l2412, e_l100000, e_m1, nI_add, ni_mul, ni_sub, nI_clamp, e_ltT, e_ltF, e_leT, e_leF, e_eqT, e_eqF, e_mE, e_Em, e_mlt, e_mle, e_ltm, e_lem, e_gz, e_gt, e_bs, ite_self, e_el, e_er, tq_get, tq_set, tq_inc, tb_get_neg, tb_set_neg, and_true, true_and, and_false, false_and, not_false_eq_true, not_true_eq_false] <;> rfl
  · refine Or.inr (Or.inl ⟨(nI 0, setTh w (nI 1)), ?_, ?_, rfl, h.th (nI 1)⟩)
    · simp (disch := omega) only [sX10_detector, c_idx, hA, ↓reduceIte, e_lt, e_bd, e_grd, e_clamp, e_l0, e_l1, e_l2, e_l3, e_l4, e_l5, e_l6, e_l7, e_l8, e_l9, e_l10, e_l12, e_l13, e_l20, e_l31, e_l32, e_l45, e_l48, e_l50, e_l57, e_l58, e_l59, e_l64, e_l70, e_l100, e_l106, e_l127, e_l138, e_l554, e_l799, e_l804, e_l1000, e_l2000, e_l2412, e_l100000, e_m1, nI_add, ni_mul, ni_sub, nI_clamp, e_ltT, e_ltF, e_leT, e_leF, e_eqT, e_eqF, e_mE, e_Em, e_mlt, e_mle, e_ltm, e_lem, e_gz, e_gt, e_bs, ite_self, e_el, e_er, tq_get, tq_set, tq_inc, tb_get_neg, tb_set_neg, and_true, true_and, and_false, false_and, not_false_eq_true, not_true_eq_false] <;> rfl
    · simp (disch := omega) only [sX11_detector, m_isC', m_in_0_3, hA, m_go0, hz, ↓reduceIte, e_lt, e_bd, e_grd, e_clamp, e_l0, e_l1, e_l2, e_l3, e_l4, e_l5, e_l6, e_l7, e_l8, e_l9, e_l10, e_l12, e_l13, e_l20, e_l31, e_l32, e_l45, e_l48, e_l50, e_l57, e_l58, e_l59, e_l64, e_l70, e_l100, e_l106, e_l127, e_l138, e_l554, e_l799, e_l804, e_l1000, e_l2000, e_l2412, e_l100000, e_m1, nI_add, ni_mul, ni_sub, nI_clamp, e_ltT, e_ltF, e_leT, e_leF, e_eqT, e_eqF, e_mE, e_Em, e_mlt, e_mle, e_ltm, e_lem, e_gz, e_gt, e_bs, ite_self, e_el, e_er, tq_get, tq_set, tq_inc, tb_get_neg, tb_set_neg, and_true, true_and, and_false, false_and, not_false_eq_true, not_true_eq_false] <;> rfl
