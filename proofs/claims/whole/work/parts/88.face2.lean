/-! undo, signals, masks, reset -/
theorem q_undo {o : Int32 × V11} {m : Nat} (h1 : o.2.2.1.1 = 3216) (h2 : o.2.1.1 = 804) (h3 : o.2.2.2.1 = nI m) (hm : 0 < m) (hm4 : m ≤ 4) : ∀ (N i : Nat) (f : Nat → Int32), i ≤ 804 → 804 - i < N → ∃ f', qX11_undo_34 o N (nI i) f = some (nI 804, f') ∧ ∀ k, f' k = if i ≤ k ∧ k < 804 then o.2.2.1.2 (804 * (m - 1) + k) else f k := by
  intro N
  induction N with
  | zero => intro i f _ h; omega
  | succ N ih =>
    intro i f hi hN
    unfold qX11_undo_34
    rcases Nat.lt_or_ge i 804 with hlt | hge
    · simp (disch := omega) only [h1, h2, h3, ↓reduceIte, e_lt, e_bd, e_grd, e_clamp, e_l0, e_l1, e_l2, e_l3, e_l4, e_l5, e_l6, e_l7, e_l8, e_l9, e_l10, e_l12, e_l13, e_l20, e_l31, e_l32, e_l45, e_l48, e_l50, e_l57, e_l58, e_l59, e_l64, e_l70, e_l100, e_l106, e_l127, e_l138, e_l554, e_l799, e_l804, e_l1000, e_l2000, e_l2412, e_l100000, e_m1, nI_add, ni_mul, ni_sub, nI_clamp, e_ltT, e_ltF, e_leT, e_leF, e_eqT, e_eqF, e_mE, e_Em, e_mlt, e_mle, e_ltm, e_lem, e_gz, e_gt, e_bs, ite_self, e_el, e_er, tq_get, tq_set, tq_inc, tb_get_neg, tb_set_neg, and_true, true_and, and_false, false_and, not_false_eq_true, not_true_eq_false]
      obtain ⟨f', e1, e2⟩ := ih (i + 1) (upd f i (o.2.2.1.2 (804 * (m - 1) + i))) hlt (by omega)
      refine ⟨f', e1, fun k => ?_⟩
      rw [e2 k]
      unfold upd
      by_cases q1 : k = i
      · subst q1
        rw [if_neg (by omega), if_pos rfl, if_pos (by omega)]
      · by_cases q2 : i ≤ k ∧ k < 804
        · rw [if_pos (by omega), if_pos q2]
        · rw [if_neg (by omega), if_neg q1, if_neg q2]
    · have : i = 804 := by omega
      subst this
      simp (disch := omega) only [↓reduceIte, e_lt, e_bd, e_grd, e_clamp, e_l0, e_l1, e_l2, e_l3, e_l4, e_l5, e_l6, e_l7, e_l8, e_l9, e_l10, e_l12, e_l13, e_l20, e_l31, e_l32, e_l45, e_l48, e_l50, e_l57, e_l58, e_l59, e_l64, e_l70, e_l100, e_l106, e_l127, e_l138, e_l554, e_l799, e_l804, e_l1000, e_l2000, e_l2412, e_l100000, e_m1, nI_add, ni_mul, ni_sub, nI_clamp, e_ltT, e_ltF, e_leT, e_leF, e_eqT, e_eqF, e_mE, e_Em, e_mlt, e_mle, e_ltm, e_lem, e_gz, e_gt, e_bs, ite_self, e_el, e_er, tq_get, tq_set, tq_inc, tb_get_neg, tb_set_neg, and_true, true_and, and_false, false_and, not_false_eq_true, not_true_eq_false]
      exact ⟨f, rfl, fun k => by rw [if_neg (by omega)]⟩
theorem pu_undo {N : Nat} (hN : 5000 ≤ N) : PU_undo RR N := by
  intro cn v w hcn h
  obtain ⟨h1, h2, h3, m, h4, h5⟩ := h
  have h0 : RR cn v w := ⟨h1, h2, h3, m, h4, h5⟩
  have hm4 : m ≤ 4 := by obtain ⟨_, _, q, _⟩ := h5; exact q
  have hv : v.2.2.2.1.2.2.2.2.2 = nI m := by obtain ⟨_, _, _, _, q, _⟩ := h5; exact q
  by_cases hm : 0 < m
  · obtain ⟨v', u', e1, e2, e3, e4⟩ := hist_rest h5 hm h3.sh
    obtain ⟨f', a1, a2⟩ := q_undo (o := (nI 1, setTh w (nI 0))) (m := m) h1.2.1 h1.1 h4 hm hm4 N 0 w.1.2 (by omega) (by omega)
    refine Or.inl ⟨(v'.2.2.2.2.2, (v.1, v.2.1, u', v', v.2.2.2.2.1, v.2.2.2.2.2)), (nI (m - 1), ((w.1.1, f'), (w.2.1.1, w.2.1.2), nI (m - 1), nI 0, w.2.2.2.2)), ?_, ?_, rfl, e3, ?_⟩
    · simp (disch := omega) only [sX10_undo, hv, e1, ↓reduceIte, e_lt, e_bd, e_grd, e_clamp, e_l0, e_l1, e_l2, e_l3, e_l4, e_l5, e_l6, e_l7, e_l8, e_l9, e_l10, e_l12, e_l13, e_l20, e_l31, e_l32, e_l45, e_l48, e_l50, e_l57, e_l58, e_l59, e_l64, e_l70, e_l100, e_l106, e_l127, e_l138, e_l554, e_l799, e_l804, e_l1000, e_l2000, e_l2412, e_l100000, e_m1, nI_add, ni_mul, ni_sub, nI_clamp, e_ltT, e_ltF, e_leT, e_leF, e_eqT, e_eqF, e_mE, e_Em, e_mlt, e_mle, e_ltm, e_lem, e_gz, e_gt, e_bs, ite_self, e_el, e_er, tq_get, tq_set, tq_inc, tb_get_neg, tb_set_neg, and_true, true_and, and_false, false_and, not_false_eq_true, not_true_eq_false] <;> rfl
    · have a1 : qX11_undo_34 (nI 1, w.1, w.2.1, nI m, nI 0, w.2.2.2.2) N (nI 0) w.1.2 = some (nI 804, f') := by
        rw [← h4]
        exact a1
      simp (disch := omega) only [sX11_undo, h4, m_go11, a1, setTh, ↓reduceIte, e_lt, e_bd, e_grd, e_clamp, e_l0, e_l1, e_l2, e_l3, e_l4, e_l5, e_l6, e_l7, e_l8, e_l9, e_l10, e_l12, e_l13, e_l20, e_l31, e_l32, e_l45, e_l48, e_l50, e_l57, e_l58, e_l59, e_l64, e_l70, e_l100, e_l106, e_l127, e_l138, e_l554, e_l799, e_l804, e_l1000, e_l2000, e_l2412, e_l100000, e_m1, nI_add, ni_mul, ni_sub, nI_clamp, e_ltT, e_ltF, e_leT, e_leF, e_eqT, e_eqF, e_mE, e_Em, e_mlt, e_mle, e_ltm, e_lem, e_gz, e_gt, e_bs, ite_self, e_el, e_er, tq_get, tq_set, tq_inc, tb_get_neg, tb_set_neg, and_true, true_and, and_false, false_and, not_false_eq_true, not_true_eq_false] <;> rfl
    · refine RR.up h0 ((ST_cg (fun k hk => ?_) e4).mono (by omega)) (e2.mono (by omega))
      rw [a2 k, if_pos ⟨by omega, hk⟩]
      rfl
  · have : m = 0 := by omega
    subst this
    refine Or.inr ⟨(nI 0, setTh w (nI 1)), ?_, ?_, rfl, h0.th (nI 1)⟩
    · simp (disch := omega) only [sX10_undo, hv, ↓reduceIte, e_lt, e_bd, e_grd, e_clamp, e_l0, e_l1, e_l2, e_l3, e_l4, e_l5, e_l6, e_l7, e_l8, e_l9, e_l10, e_l12, e_l13, e_l20, e_l31, e_l32, e_l45, e_l48, e_l50, e_l57, e_l58, e_l59, e_l64, e_l70, e_l100, e_l106, e_l127, e_l138, e_l554, e_l799, e_l804, e_l1000, e_l2000, e_l2412, e_l100000, e_m1, nI_add, ni_mul, ni_sub, nI_clamp, e_ltT, e_ltF, e_leT, e_leF, e_eqT, e_eqF, e_mE, e_Em, e_mlt, e_mle, e_ltm, e_lem, e_gz, e_gt, e_bs, ite_self, e_el, e_er, tq_get, tq_set, tq_inc, tb_get_neg, tb_set_neg, and_true, true_and, and_false, false_and, not_false_eq_true, not_true_eq_false] <;> rfl
    · simp (disch := omega) only [sX11_undo, h4, m_go0, ↓reduceIte, e_lt, e_bd, e_grd, e_clamp, e_l0, e_l1, e_l2, e_l3, e_l4, e_l5, e_l6, e_l7, e_l8, e_l9, e_l10, e_l12, e_l13, e_l20, e_l31, e_l32, e_l45, e_l48, e_l50, e_l57, e_l58, e_l59, e_l64, e_l70, e_l100, e_l106, e_l127, e_l138, e_l554, e_l799, e_l804, e_l1000, e_l2000, e_l2412, e_l100000, e_m1, nI_add, ni_mul, ni_sub, nI_clamp, e_ltT, e_ltF, e_leT, e_leF, e_eqT, e_eqF, e_mE, e_Em, e_mlt, e_mle, e_ltm, e_lem, e_gz, e_gt, e_bs, ite_self, e_el, e_er, tq_get, tq_set, tq_inc, tb_get_neg, tb_set_neg, and_true, true_and, and_false, false_and, not_false_eq_true, not_true_eq_false] <;> rfl
/-! signals -/
abbrev row6 (g : Nat → Int32) (b : Nat) (x0 x1 x2 x3 x4 x5 : Int32) : Nat → Int32 := upd (upd (upd (upd (upd (upd g b x0) (b + 1) x1) (b + 2) x2) (b + 3) x3) (b + 4) x4) (b + 5) x5
theorem row6_out {g : Nat → Int32} {b k : Nat} {x0 x1 x2 x3 x4 x5 : Int32} (h : k < b ∨ b + 6 ≤ k) : row6 g b x0 x1 x2 x3 x4 x5 k = g k := by
  unfold row6
  rw [e_ne (by omega), e_ne (by omega), e_ne (by omega), e_ne (by omega), e_ne (by omega), e_ne (by omega)]
theorem row6_in (g g' : Nat → Int32) (b b' : Nat) (x0 x1 x2 x3 x4 x5 : Int32) {j : Nat} (hj : j < 6) : row6 g b x0 x1 x2 x3 x4 x5 (b + j) = row6 g' b' x0 x1 x2 x3 x4 x5 (b' + j) := by
  unfold row6 upd
  rcases (show j = 0 ∨ j = 1 ∨ j = 2 ∨ j = 3 ∨ j = 4 ∨ j = 5 by omega) with rfl | rfl | rfl | rfl | rfl | rfl <;> simp
theorem m_adds {w : V11} {n : Nat} (hz : w.1.1 = 804) (h5 : w.1.2 5 = nI n) (hn : n < 10) (x0 x1 x2 x3 x4 x5 : Int32) : sX11_adds w x0 x1 x2 x3 x4 x5 = some (nI n, ((w.1.1, upd (row6 w.1.2 (10 + 6 * n) x0 x1 x2 x3 x4 x5) 5 (nI (n + 1))), w.2)) := by
  simp (disch := omega) only [sX11_adds, hz, h5, e_ne, e_eq, Nat.add_sub_cancel, ↓reduceIte, e_lt, e_bd, e_grd, e_clamp, e_l0, e_l1, e_l2, e_l3, e_l4, e_l5, e_l6, e_l7, e_l8, e_l9, e_l10, e_l12, e_l13, e_l20, e_l31, e_l32, e_l45, e_l48, e_l50, e_l57, e_l58, e_l59, e_l64, e_l70, e_l100, e_l106, e_l127, e_l138, e_l554, e_l799, e_l804, e_l1000, e_l2000, e_l2412, e_l100000, e_m1, nI_add, ni_mul, ni_sub, nI_clamp, e_ltT, e_ltF, e_leT, e_leF, e_eqT, e_eqF, e_mE, e_Em, e_mlt, e_mle, e_ltm, e_lem, e_gz, e_gt, e_bs, ite_self, e_el, e_er, tq_get, tq_set, tq_inc, tb_get_neg, tb_set_neg, and_true, true_and, and_false, false_and, not_false_eq_true, not_true_eq_false] <;> rfl
theorem c_add {f : Nat → Int32} {n : Nat} (hn : n < 10) (x0 : Int32) : sX7_add ((nI 10, nI 6, 10 * 6, f), nI n) x0 = some (nI n, ((nI 10, nI 6, 10 * 6, upd f (n * 6 + 0) x0), nI (n + 1))) := by
  simp (disch := omega) only [sX7_add, ↓reduceIte, e_lt, e_bd, e_grd, e_clamp, e_l0, e_l1, e_l2, e_l3, e_l4, e_l5, e_l6, e_l7, e_l8, e_l9, e_l10, e_l12, e_l13, e_l20, e_l31, e_l32, e_l45, e_l48, e_l50, e_l57, e_l58, e_l59, e_l64, e_l70, e_l100, e_l106, e_l127, e_l138, e_l554, e_l799, e_l804, e_l1000, e_l2000, e_l2412, e_l100000, e_m1, nI_add, ni_mul, ni_sub, nI_clamp, e_ltT, e_ltF, e_leT, e_leF, e_eqT, e_eqF, e_mE, e_Em, e_mlt, e_mle, e_ltm, e_lem, e_gz, e_gt, e_bs, ite_self, e_el, e_er, tq_get, tq_set, tq_inc, tb_get_neg, tb_set_neg, and_true, true_and, and_false, false_and, not_false_eq_true, not_true_eq_false] <;> rfl
theorem c_put {f : Nat → Int32} {n m j : Nat} (hn : n < 10) (hj : j < 6) (x0 : Int32) : sX7_put ((nI 10, nI 6, 10 * 6, f), nI m) (nI n) (nI j) x0 = some ((nI 10, nI 6, 10 * 6, upd f (n * 6 + j) x0), nI m) := by
  simp (disch := omega) only [sX7_put, ↓reduceIte, e_lt, e_bd, e_grd, e_clamp, e_l0, e_l1, e_l2, e_l3, e_l4, e_l5, e_l6, e_l7, e_l8, e_l9, e_l10, e_l12, e_l13, e_l20, e_l31, e_l32, e_l45, e_l48, e_l50, e_l57, e_l58, e_l59, e_l64, e_l70, e_l100, e_l106, e_l127, e_l138, e_l554, e_l799, e_l804, e_l1000, e_l2000, e_l2412, e_l100000, e_m1, nI_add, ni_mul, ni_sub, nI_clamp, e_ltT, e_ltF, e_leT, e_leF, e_eqT, e_eqF, e_mE, e_Em, e_mlt, e_mle, e_ltm, e_lem, e_gz, e_gt, e_bs, ite_self, e_el, e_er, tq_get, tq_set, tq_inc, tb_get_neg, tb_set_neg, and_true, true_and, and_false, false_and, not_false_eq_true, not_true_eq_false] <;> rfl
theorem sigOk_sh {g g' : Nat → Int32} {i i' : Nat} (hg : ∀ j, j < 6 → g' (10 + 6 * i + j) = g (10 + 6 * i' + j)) (h : sigOk g i') : sigOk g' i := by
  unfold sigOk at h ⊢
  rw [show g' (10 + 6 * i) = g (10 + 6 * i') from hg 0 (by decide), hg 1 (by decide), hg 2 (by decide), hg 3 (by decide), hg 4 (by decide), hg 5 (by decide)]
  exact h
theorem sig_add {f g : Nat → Int32} {n : Nat} (hn : n < 10) {x0 x1 x2 x3 x4 x5 : Int32} (h : Rsig ((nI 10, nI 6, 10 * 6, f), nI n) g) (ho : sigOk (row6 g (10 + 6 * n) x0 x1 x2 x3 x4 x5) n) : Rsig ((nI 10, nI 6, 10 * 6, row6 f (n * 6 + 0) x0 x1 x2 x3 x4 x5), nI (n + 1)) (upd (row6 g (10 + 6 * n) x0 x1 x2 x3 x4 x5) 5 (nI (n + 1))) := by
  obtain ⟨-, n', h1, h2, h3, h4, h5⟩ := h
  have en : n = n' := (nI_eq (by omega) (by omega)).mp h2
  subst en
  have hc : ∀ i, i < 10 → sigOk (row6 g (10 + 6 * n) x0 x1 x2 x3 x4 x5) i → sigOk (upd (row6 g (10 + 6 * n) x0 x1 x2 x3 x4 x5) 5 (nI (n + 1))) i := by
    intro i hi q
    exact sigOk_sh (fun j hj => e_ne (by omega)) q
  refine ⟨⟨rfl, rfl, rfl⟩, n + 1, by omega, rfl, e_eq rfl, fun i j hi hj => ?_, fun i hi => ?_⟩
  · rw [e_ne (by omega)]
    show row6 f (n * 6 + 0) x0 x1 x2 x3 x4 x5 (i * 6 + j) = _
    by_cases e : i = n
    · subst e
      exact row6_in f g (i * 6 + 0) (10 + 6 * i) x0 x1 x2 x3 x4 x5 hj
    · rw [row6_out (by omega), row6_out (by omega)]
      exact h4 i j (by omega) hj
  · refine hc i (by omega) ?_
    by_cases e : i = n
    · subst e
      exact ho
    · exact sigOk_sh (fun j hj => row6_out (by omega)) (h5 i (by omega))
/-- what a change in the signals' part leaves -/
theorem ST.sig {v : V8} {g g' : Nat → Int32} {T : Nat} {s : V7} (h : ST v g T) (hs : Rsig s g') (hg : ∀ k, ¬ (k = 5 ∨ 10 ≤ k ∧ k < 70) → g' k = g k) : ST (s, v.2) g' T := by
  obtain ⟨h1, h2, t, h3, h4, h5, h6, h7⟩ := h
  exact ⟨hs, Rpl_cg (fun k hk => (hg k (by omega)).symm) h2, t, h3, (hg 0 (by omega)).trans h4, Rdet_cg (fun k hk => (hg k (by omega)).symm) h5, Rev_cg (fun k hk => (hg k (by omega)).symm) h6, Rnum_cg (fun k hk => (hg k (by omega)).symm) h7⟩
theorem pu_addPulsed {N : Nat} (hN : 5000 ≤ N) : PU_addPulsed RR N := by
  intro cn v w p1 p2 p3 p4 p5 hcn h
  have hz : w.1.1 = 804 := h.1.1
  obtain ⟨hS, hG⟩ : ∃ n, n ≤ 10 ∧ v.2.2.1.1.2 = nI n ∧ w.1.2 5 = nI n := by
    obtain ⟨-, -, ⟨⟨-, n, q1, q2, q3, -⟩, -⟩, -⟩ := id h
    exact ⟨n, q1, q2, q3⟩
  obtain ⟨hn, e5, g5⟩ := hG
  by_cases hA : nI 0 ≤ p1 ∧ p1 ≤ nI 31
  case neg =>
    have hr : ∀ b : Int32, sX11_goes w (nI 0) b = some (nI 0, setTh w (nI 1)) := m_go0 w
    refine Or.inr (Or.inl ⟨(nI 0, setTh w (nI 1)), ?_, ?_, rfl, h.th (nI 1)⟩)
    · simp (disch := omega) only [sX10_addPulsed, c_arg, hA, ↓reduceIte, e_lt, e_bd, e_grd, e_clamp, e_l0, e_l1, e_l2, e_l3, e_l4, e_l5, e_l6, e_l7, e_l8, e_l9, e_l10, e_l12, e_l13, e_l20, e_l31, e_l32, e_l45, e_l48, e_l50, e_l57, e_l58, e_l59, e_l64, e_l70, e_l100, e_l106, e_l127, e_l138, e_l554, e_l799, e_l804, e_l1000, e_l2000, e_l2412, e_l100000, e_m1, nI_add, ni_mul, ni_sub, nI_clamp, e_ltT, e_ltF, e_leT, e_leF, e_eqT, e_eqF, e_mE, e_Em, e_mlt, e_mle, e_ltm, e_lem, e_gz, e_gt, e_bs, ite_self, e_el, e_er, tq_get, tq_set, tq_inc, tb_get_neg, tb_set_neg, and_true, true_and, and_false, false_and, not_false_eq_true, not_true_eq_false] <;> rfl
    · rcases Nat.lt_or_ge hS 10 with q | q
      · simp (disch := omega) only [sX11_addPulsed, m_isC, m_isL, m_isS, m_in_1_1000, m_in_1, hA, hz, g5, m_go0, ↓reduceIte, e_lt, e_bd, e_grd, e_clamp, e_l0, e_l1, e_l2, e_l3, e_l4, e_l5, e_l6, e_l7, e_l8, e_l9, e_l10, e_l12, e_l13, e_l20, e_l31, e_l32, e_l45, e_l48, e_l50, e_l57, e_l58, e_l59, e_l64, e_l70, e_l100, e_l106, e_l127, e_l138, e_l554, e_l799, e_l804, e_l1000, e_l2000, e_l2412, e_l100000, e_m1, nI_add, ni_mul, ni_sub, nI_clamp, e_ltT, e_ltF, e_leT, e_leF, e_eqT, e_eqF, e_mE, e_Em, e_mlt, e_mle, e_ltm, e_lem, e_gz, e_gt, e_bs, ite_self, e_el, e_er, tq_get, tq_set, tq_inc, tb_get_neg, tb_set_neg, and_true, true_and, and_false, false_and, not_false_eq_true, not_true_eq_false] <;> rfl
      · simp (disch := omega) only [sX11_addPulsed, m_isC, m_isL, m_isS, m_in_1_1000, m_in_1, hA, hz, g5, m_go0, ↓reduceIte, e_lt, e_bd, e_grd, e_clamp, e_l0, e_l1, e_l2, e_l3, e_l4, e_l5, e_l6, e_l7, e_l8, e_l9, e_l10, e_l12, e_l13, e_l20, e_l31, e_l32, e_l45, e_l48, e_l50, e_l57, e_l58, e_l59, e_l64, e_l70, e_l100, e_l106, e_l127, e_l138, e_l554, e_l799, e_l804, e_l1000, e_l2000, e_l2412, e_l100000, e_m1, nI_add, ni_mul, ni_sub, nI_clamp, e_ltT, e_ltF, e_leT, e_leF, e_eqT, e_eqF, e_mE, e_Em, e_mlt, e_mle, e_ltm, e_lem, e_gz, e_gt, e_bs, ite_self, e_el, e_er, tq_get, tq_set, tq_inc, tb_get_neg, tb_set_neg, and_true, true_and, and_false, false_and, not_false_eq_true, not_true_eq_false] <;> rfl
  by_cases hB : nI 0 ≤ p2 ∧ p2 ≤ nI 100
  case neg =>
    have hr : ∀ b : Int32, sX11_goes w (nI 0) b = some (nI 0, setTh w (nI 1)) := m_go0 w
    refine Or.inr (Or.inl ⟨(nI 0, setTh w (nI 1)), ?_, ?_, rfl, h.th (nI 1)⟩)
    · simp (disch := omega) only [sX10_addPulsed, c_arg, hA, hB, ↓reduceIte, e_lt, e_bd, e_grd, e_clamp, e_l0, e_l1, e_l2, e_l3, e_l4, e_l5, e_l6, e_l7, e_l8, e_l9, e_l10, e_l12, e_l13, e_l20, e_l31, e_l32, e_l45, e_l48, e_l50, e_l57, e_l58, e_l59, e_l64, e_l70, e_l100, e_l106, e_l127, e_l138, e_l554, e_l799, e_l804, e_l1000, e_l2000, e_l2412, e_l100000, e_m1, nI_add, ni_mul, ni_sub, nI_clamp, e_ltT, e_ltF, e_leT, e_leF, e_eqT, e_eqF, e_mE, e_Em, e_mlt, e_mle, e_ltm, e_lem, e_gz, e_gt, e_bs, ite_self, e_el, e_er, tq_get, tq_set, tq_inc, tb_get_neg, tb_set_neg, and_true, true_and, and_false, false_and, not_false_eq_true, not_true_eq_false] <;> rfl
    · rcases Nat.lt_or_ge hS 10 with q | q
      · simp (disch := omega) only [sX11_addPulsed, m_isC, m_isL, m_isS, m_in_1_1000, m_in_1, hA, hB, hz, g5, m_go0, ↓reduceIte, e_lt, e_bd, e_grd, e_clamp, e_l0, e_l1, e_l2, e_l3, e_l4, e_l5, e_l6, e_l7, e_l8, e_l9, e_l10, e_l12, e_l13, e_l20, e_l31, e_l32, e_l45, e_l48, e_l50, e_l57, e_l58, e_l59, e_l64, e_l70, e_l100, e_l106, e_l127, e_l138, e_l554, e_l799, e_l804, e_l1000, e_l2000, e_l2412, e_l100000, e_m1, nI_add, ni_mul, ni_sub, nI_clamp, e_ltT, e_ltF, e_leT, e_leF, e_eqT, e_eqF, e_mE, e_Em, e_mlt, e_mle, e_ltm, e_lem, e_gz, e_gt, e_bs, ite_self, e_el, e_er, tq_get, tq_set, tq_inc, tb_get_neg, tb_set_neg, and_true, true_and, and_false, false_and, not_false_eq_true, not_true_eq_false] <;> rfl
      · simp (disch := omega) only [sX11_addPulsed, m_isC, m_isL, m_isS, m_in_1_1000, m_in_1, hA, hB, hz, g5, m_go0, ↓reduceIte, e_lt, e_bd, e_grd, e_clamp, e_l0, e_l1, e_l2, e_l3, e_l4, e_l5, e_l6, e_l7, e_l8, e_l9, e_l10, e_l12, e_l13, e_l20, e_l31, e_l32, e_l45, e_l48, e_l50, e_l57, e_l58, e_l59, e_l64, e_l70, e_l100, e_l106, e_l127, e_l138, e_l554, e_l799, e_l804, e_l1000, e_l2000, e_l2412, e_l100000, e_m1, nI_add, ni_mul, ni_sub, nI_clamp, e_ltT, e_ltF, e_leT, e_leF, e_eqT, e_eqF, e_mE, e_Em, e_mlt, e_mle, e_ltm, e_lem, e_gz, e_gt, e_bs, ite_self, e_el, e_er, tq_get, tq_set, tq_inc, tb_get_neg, tb_set_neg, and_true, true_and, and_false, false_and, not_false_eq_true, not_true_eq_false] <;> rfl
  by_cases hC : nI 0 ≤ p3 ∧ p3 ≤ nI 100000
  case neg =>
    have hr : ∀ b : Int32, sX11_goes w (nI 0) b = some (nI 0, setTh w (nI 1)) := m_go0 w
    refine Or.inr (Or.inl ⟨(nI 0, setTh w (nI 1)), ?_, ?_, rfl, h.th (nI 1)⟩)
    · simp (disch := omega) only [sX10_addPulsed, c_arg, hA, hB, hC, ↓reduceIte, e_lt, e_bd, e_grd, e_clamp, e_l0, e_l1, e_l2, e_l3, e_l4, e_l5, e_l6, e_l7, e_l8, e_l9, e_l10, e_l12, e_l13, e_l20, e_l31, e_l32, e_l45, e_l48, e_l50, e_l57, e_l58, e_l59, e_l64, e_l70, e_l100, e_l106, e_l127, e_l138, e_l554, e_l799, e_l804, e_l1000, e_l2000, e_l2412, e_l100000, e_m1, nI_add, ni_mul, ni_sub, nI_clamp, e_ltT, e_ltF, e_leT, e_leF, e_eqT, e_eqF, e_mE, e_Em, e_mlt, e_mle, e_ltm, e_lem, e_gz, e_gt, e_bs, ite_self, e_el, e_er, tq_get, tq_set, tq_inc, tb_get_neg, tb_set_neg, and_true, true_and, and_false, false_and, not_false_eq_true, not_true_eq_false] <;> rfl
    · rcases Nat.lt_or_ge hS 10 with q | q
      · simp (disch := omega) only [sX11_addPulsed, m_isC, m_isL, m_isS, m_in_1_1000, m_in_1, hA, hB, hC, hz, g5, m_go0, ↓reduceIte, e_lt, e_bd, e_grd, e_clamp, e_l0, e_l1, e_l2, e_l3, e_l4, e_l5, e_l6, e_l7, e_l8, e_l9, e_l10, e_l12, e_l13, e_l20, e_l31, e_l32, e_l45, e_l48, e_l50, e_l57, e_l58, e_l59, e_l64, e_l70, e_l100, e_l106, e_l127, e_l138, e_l554, e_l799, e_l804, e_l1000, e_l2000, e_l2412, e_l100000, e_m1, nI_add, ni_mul, ni_sub, nI_clamp, e_ltT, e_ltF, e_leT, e_leF, e_eqT, e_eqF, e_mE, e_Em, e_mlt, e_mle, e_ltm, e_lem, e_gz, e_gt, e_bs, ite_self, e_el, e_er, tq_get, tq_set, tq_inc, tb_get_neg, tb_set_neg, and_true, true_and, and_false, false_and, not_false_eq_true, not_true_eq_false] <;> rfl
      · simp (disch := omega) only [sX11_addPulsed, m_isC, m_isL, m_isS, m_in_1_1000, m_in_1, hA, hB, hC, hz, g5, m_go0, ↓reduceIte, e_lt, e_bd, e_grd, e_clamp, e_l0, e_l1, e_l2, e_l3, e_l4, e_l5, e_l6, e_l7, e_l8, e_l9, e_l10, e_l12, e_l13, e_l20, e_l31, e_l32, e_l45, e_l48, e_l50, e_l57, e_l58, e_l59, e_l64, e_l70, e_l100, e_l106, e_l127, e_l138, e_l554, e_l799, e_l804, e_l1000, e_l2000, e_l2412, e_l100000, e_m1, nI_add, ni_mul, ni_sub, nI_clamp, e_ltT, e_ltF, e_leT, e_leF, e_eqT, e_eqF, e_mE, e_Em, e_mlt, e_mle, e_ltm, e_lem, e_gz, e_gt, e_bs, ite_self, e_el, e_er, tq_get, tq_set, tq_inc, tb_get_neg, tb_set_neg, and_true, true_and, and_false, false_and, not_false_eq_true, not_true_eq_false] <;> rfl
  by_cases hD : nI 1 ≤ p5 ∧ p5 ≤ nI 1000
  case neg =>
    have hr : ∀ b : Int32, sX11_goes w (nI 0) b = some (nI 0, setTh w (nI 1)) := m_go0 w
    refine Or.inr (Or.inl ⟨(nI 0, setTh w (nI 1)), ?_, ?_, rfl, h.th (nI 1)⟩)
    · simp (disch := omega) only [sX10_addPulsed, c_arg, hA, hB, hC, hD, ↓reduceIte, e_lt, e_bd, e_grd, e_clamp, e_l0, e_l1, e_l2, e_l3, e_l4, e_l5, e_l6, e_l7, e_l8, e_l9, e_l10, e_l12, e_l13, e_l20, e_l31, e_l32, e_l45, e_l48, e_l50, e_l57, e_l58, e_l59, e_l64, e_l70, e_l100, e_l106, e_l127, e_l138, e_l554, e_l799, e_l804, e_l1000, e_l2000, e_l2412, e_l100000, e_m1, nI_add, ni_mul, ni_sub, nI_clamp, e_ltT, e_ltF, e_leT, e_leF, e_eqT, e_eqF, e_mE, e_Em, e_mlt, e_mle, e_ltm, e_lem, e_gz, e_gt, e_bs, ite_self, e_el, e_er, tq_get, tq_set, tq_inc, tb_get_neg, tb_set_neg, and_true, true_and, and_false, false_and, not_false_eq_true, not_true_eq_false] <;> rfl
    · rcases Nat.lt_or_ge hS 10 with q | q
      · simp (disch := omega) only [sX11_addPulsed, m_isC, m_isL, m_isS, m_in_1_1000, m_in_1, hA, hB, hC, hD, hz, g5, m_go0, ↓reduceIte, e_lt, e_bd, e_grd, e_clamp, e_l0, e_l1, e_l2, e_l3, e_l4, e_l5, e_l6, e_l7, e_l8, e_l9, e_l10, e_l12, e_l13, e_l20, e_l31, e_l32, e_l45, e_l48, e_l50, e_l57, e_l58, e_l59, e_l64, e_l70, e_l100, e_l106, e_l127, e_l138, e_l554, e_l799, e_l804, e_l1000, e_l2000, e_l2412, e_l100000, e_m1, nI_add, ni_mul, ni_sub, nI_clamp, e_ltT, e_ltF, e_leT, e_leF, e_eqT, e_eqF, e_mE, e_Em, e_mlt, e_mle, e_ltm, e_lem, e_gz, e_gt, e_bs, ite_self, e_el, e_er, tq_get, tq_set, tq_inc, tb_get_neg, tb_set_neg, and_true, true_and, and_false, false_and, not_false_eq_true, not_true_eq_false] <;> rfl
      · simp (disch := omega) only [sX11_addPulsed, m_isC, m_isL, m_isS, m_in_1_1000, m_in_1, hA, hB, hC, hD, hz, g5, m_go0, ↓reduceIte, e_lt, e_bd, e_grd, e_clamp, e_l0, e_l1, e_l2, e_l3, e_l4, e_l5, e_l6, e_l7, e_l8, e_l9, e_l10, e_l12, e_l13, e_l20, e_l31, e_l32, e_l45, e_l48, e_l50, e_l57, e_l58, e_l59, e_l64, e_l70, e_l100, e_l106, e_l127, e_l138, e_l554, e_l799, e_l804, e_l1000, e_l2000, e_l2412, e_l100000, e_m1, nI_add, ni_mul, ni_sub, nI_clamp, e_ltT, e_ltF, e_leT, e_leF, e_eqT, e_eqF, e_mE, e_Em, e_mlt, e_mle, e_ltm, e_lem, e_gz, e_gt, e_bs, ite_self, e_el, e_er, tq_get, tq_set, tq_inc, tb_get_neg, tb_set_neg, and_true, true_and, and_false, false_and, not_false_eq_true, not_true_eq_false] <;> rfl
  by_cases hE : nI 1 ≤ p4 ∧ p4 ≤ p5
  case neg =>
    have hr : ∀ b : Int32, sX11_goes w (nI 0) b = some (nI 0, setTh w (nI 1)) := m_go0 w
    refine Or.inr (Or.inl ⟨(nI 0, setTh w (nI 1)), ?_, ?_, rfl, h.th (nI 1)⟩)
    · simp (disch := omega) only [sX10_addPulsed, c_arg, hA, hB, hC, hD, hE, ↓reduceIte, e_lt, e_bd, e_grd, e_clamp, e_l0, e_l1, e_l2, e_l3, e_l4, e_l5, e_l6, e_l7, e_l8, e_l9, e_l10, e_l12, e_l13, e_l20, e_l31, e_l32, e_l45, e_l48, e_l50, e_l57, e_l58, e_l59, e_l64, e_l70, e_l100, e_l106, e_l127, e_l138, e_l554, e_l799, e_l804, e_l1000, e_l2000, e_l2412, e_l100000, e_m1, nI_add, ni_mul, ni_sub, nI_clamp, e_ltT, e_ltF, e_leT, e_leF, e_eqT, e_eqF, e_mE, e_Em, e_mlt, e_mle, e_ltm, e_lem, e_gz, e_gt, e_bs, ite_self, e_el, e_er, tq_get, tq_set, tq_inc, tb_get_neg, tb_set_neg, and_true, true_and, and_false, false_and, not_false_eq_true, not_true_eq_false] <;> rfl
    · rcases Nat.lt_or_ge hS 10 with q | q
      · simp (disch := omega) only [sX11_addPulsed, m_isC, m_isL, m_isS, m_in_1_1000, m_in_1, hA, hB, hC, hD, hE, hz, g5, m_go0, ↓reduceIte, e_lt, e_bd, e_grd, e_clamp, e_l0, e_l1, e_l2, e_l3, e_l4, e_l5, e_l6, e_l7, e_l8, e_l9, e_l10, e_l12, e_l13, e_l20, e_l31, e_l32, e_l45, e_l48, e_l50, e_l57, e_l58, e_l59, e_l64, e_l70, e_l100, e_l106, e_l127, e_l138, e_l554, e_l799, e_l804, e_l1000, e_l2000, e_l2412, e_l100000, e_m1, nI_add, ni_mul, ni_sub, nI_clamp, e_ltT, e_ltF, e_leT, e_leF, e_eqT, e_eqF, e_mE, e_Em, e_mlt, e_mle, e_ltm, e_lem, e_gz, e_gt, e_bs, ite_self, e_el, e_er, tq_get, tq_set, tq_inc, tb_get_neg, tb_set_neg, and_true, true_and, and_false, false_and, not_false_eq_true, not_true_eq_false] <;> rfl
      · simp (disch := omega) only [sX11_addPulsed, m_isC, m_isL, m_isS, m_in_1_1000, m_in_1, hA, hB, hC, hD, hE, hz, g5, m_go0, ↓reduceIte, e_lt, e_bd, e_grd, e_clamp, e_l0, e_l1, e_l2, e_l3, e_l4, e_l5, e_l6, e_l7, e_l8, e_l9, e_l10, e_l12, e_l13, e_l20, e_l31, e_l32, e_l45, e_l48, e_l50, e_l57, e_l58, e_l59, e_l64, e_l70, e_l100, e_l106, e_l127, e_l138, e_l554, e_l799, e_l804, e_l1000, e_l2000, e_l2412, e_l100000, e_m1, nI_add, ni_mul, ni_sub, nI_clamp, e_ltT, e_ltF, e_leT, e_leF, e_eqT, e_eqF, e_mE, e_Em, e_mlt, e_mle, e_ltm, e_lem, e_gz, e_gt, e_bs, ite_self, e_el, e_er, tq_get, tq_set, tq_inc, tb_get_neg, tb_set_neg, and_true, true_and, and_false, false_and, not_false_eq_true, not_true_eq_false] <;> rfl
  by_cases hF : hS < 10
  case neg =>
    refine Or.inr (Or.inr ⟨(nI 0, setTh w (nI 2)), ?_, ?_, rfl, h.th (nI 2)⟩)
    · simp (disch := omega) only [sX10_addPulsed, c_arg, c_room, e5, hA, hB, hC, hD, hE, ↓reduceIte, e_lt, e_bd, e_grd, e_clamp, e_l0, e_l1, e_l2, e_l3, e_l4, e_l5, e_l6, e_l7, e_l8, e_l9, e_l10, e_l12, e_l13, e_l20, e_l31, e_l32, e_l45, e_l48, e_l50, e_l57, e_l58, e_l59, e_l64, e_l70, e_l100, e_l106, e_l127, e_l138, e_l554, e_l799, e_l804, e_l1000, e_l2000, e_l2412, e_l100000, e_m1, nI_add, ni_mul, ni_sub, nI_clamp, e_ltT, e_ltF, e_leT, e_leF, e_eqT, e_eqF, e_mE, e_Em, e_mlt, e_mle, e_ltm, e_lem, e_gz, e_gt, e_bs, ite_self, e_el, e_er, tq_get, tq_set, tq_inc, tb_get_neg, tb_set_neg, and_true, true_and, and_false, false_and, not_false_eq_true, not_true_eq_false] <;> rfl
    · simp (disch := omega) only [sX11_addPulsed, m_isC, m_isL, m_isS, m_in_1_1000, m_in_1, hA, hB, hC, hD, hE, hz, g5, m_go10, ↓reduceIte, e_lt, e_bd, e_grd, e_clamp, e_l0, e_l1, e_l2, e_l3, e_l4, e_l5, e_l6, e_l7, e_l8, e_l9, e_l10, e_l12, e_l13, e_l20, e_l31, e_l32, e_l45, e_l48, e_l50, e_l57, e_l58, e_l59, e_l64, e_l70, e_l100, e_l106, e_l127, e_l138, e_l554, e_l799, e_l804, e_l1000, e_l2000, e_l2412, e_l100000, e_m1, nI_add, ni_mul, ni_sub, nI_clamp, e_ltT, e_ltF, e_leT, e_leF, e_eqT, e_eqF, e_mE, e_Em, e_mlt, e_mle, e_ltm, e_lem, e_gz, e_gt, e_bs, ite_self, e_el, e_er, tq_get, tq_set, tq_inc, tb_get_neg, tb_set_neg, and_true, true_and, and_false, false_and, not_false_eq_true, not_true_eq_false] <;> rfl
  obtain ⟨hv, sv, m, e1, e2, e3⟩ := sv_both h hN (nI 0)
  obtain ⟨f, hf⟩ := (show TB 10 6 v.2.2.1.1.1 from h.2.2.1.1.1).ex
  have hs : v.2.2.1.1 = ((nI 10, nI 6, 10 * 6, f), nI hS) := by
    rw [← hf, ← e5]
  have ha := m_adds (w := ((w.1.1, w.1.2), (w.2.1.1, sv), nI m, nI 0, w.2.2.2.2)) hz g5 hF (nI 0) p1 p2 p3 p4 p5
  simp only [hz] at e2 ha
  refine Or.inl ⟨(nI hS, (v.1, v.2.1, (((nI 10, nI 6, 10 * 6, row6 f (hS * 6 + 0) (nI 0) p1 p2 p3 p4 p5), nI (hS + 1)), v.2.2.1.2), hv, v.2.2.2.2.1, v.2.2.2.2.2)), (nI hS, ((w.1.1, upd (row6 w.1.2 (10 + 6 * hS) (nI 0) p1 p2 p3 p4 p5) 5 (nI (hS + 1))), (w.2.1.1, sv), nI m, nI 0, w.2.2.2.2)), ?_, ?_, rfl, rfl, ?_⟩
  · simp (disch := omega) only [sX10_addPulsed, c_arg, c_room, e5, hA, hB, hC, hD, hE, e1, hs, c_add, c_put, ↓reduceIte, e_lt, e_bd, e_grd, e_clamp, e_l0, e_l1, e_l2, e_l3, e_l4, e_l5, e_l6, e_l7, e_l8, e_l9, e_l10, e_l12, e_l13, e_l20, e_l31, e_l32, e_l45, e_l48, e_l50, e_l57, e_l58, e_l59, e_l64, e_l70, e_l100, e_l106, e_l127, e_l138, e_l554, e_l799, e_l804, e_l1000, e_l2000, e_l2412, e_l100000, e_m1, nI_add, ni_mul, ni_sub, nI_clamp, e_ltT, e_ltF, e_leT, e_leF, e_eqT, e_eqF, e_mE, e_Em, e_mlt, e_mle, e_ltm, e_lem, e_gz, e_gt, e_bs, ite_self, e_el, e_er, tq_get, tq_set, tq_inc, tb_get_neg, tb_set_neg, and_true, true_and, and_false, false_and, not_false_eq_true, not_true_eq_false] <;> rfl
  · simp (disch := omega) only [sX11_addPulsed, m_isC, m_isL, m_isS, m_in_1_1000, m_in_1, hA, hB, hC, hD, hE, hz, g5, Option.bind_some, ↓reduceIte, e_k0, e_k1, e_k2, e_k3, e_k4, e_k5, e_k6, e_k7, e_k8, e_k9]
    simp (disch := omega) only [hF, hz, m_go11, e2, ha, ↓reduceIte, e_lt, e_bd, e_grd, e_clamp, e_l0, e_l1, e_l2, e_l3, e_l4, e_l5, e_l6, e_l7, e_l8, e_l9, e_l10, e_l12, e_l13, e_l20, e_l31, e_l32, e_l45, e_l48, e_l50, e_l57, e_l58, e_l59, e_l64, e_l70, e_l100, e_l106, e_l127, e_l138, e_l554, e_l799, e_l804, e_l1000, e_l2000, e_l2412, e_l100000, e_m1, nI_add, ni_mul, ni_sub, nI_clamp, e_ltT, e_ltF, e_leT, e_leF, e_eqT, e_eqF, e_mE, e_Em, e_mlt, e_mle, e_ltm, e_lem, e_gz, e_gt, e_bs, ite_self, e_el, e_er, tq_get, tq_set, tq_inc, tb_get_neg, tb_set_neg, and_true, true_and, and_false, false_and, not_false_eq_true, not_true_eq_false] <;> rfl
  · refine RR.up h (ST.sig (h.2.2.1.mono (by omega)) (sig_add hF (by rw [← hs]; exact h.2.2.1.1) ?_) (fun k hk => ?_)) e3
    · unfold sigOk row6
      obtain ⟨a1, -, b1, rfl⟩ := rg_of (by decide) (by decide) hA.1 hA.2
      obtain ⟨a2, -, b2, rfl⟩ := rg_of (by decide) (by decide) hB.1 hB.2
      obtain ⟨a3, -, b3, rfl⟩ := rg_of (by decide) (by decide) hC.1 hC.2
      obtain ⟨a5, c5, b5, rfl⟩ := rg_of (by decide) (by decide) hD.1 hD.2
      obtain ⟨a4, c4, b4, rfl⟩ := rg_of (by omega) (by decide) hE.1 hE.2
      refine Or.inl ⟨?_, ⟨a1, by omega, ?_⟩, ⟨a2, b2, ?_⟩, ⟨a3, b3, ?_⟩, a4, a5, c4, b4, b5, ?_, ?_⟩ <;> simp (disch := omega) only [e_ne, e_eq]
    · rw [e_ne (by omega), row6_out (by omega)]
theorem pu_addHopping {N : Nat} (hN : 5000 ≤ N) : PU_addHopping RR N := by
  intro cn v w p1 p2 p3 p4 p5 hcn h
  have hz : w.1.1 = 804 := h.1.1
  obtain ⟨hS, hG⟩ : ∃ n, n ≤ 10 ∧ v.2.2.1.1.2 = nI n ∧ w.1.2 5 = nI n := by
    obtain ⟨-, -, ⟨⟨-, n, q1, q2, q3, -⟩, -⟩, -⟩ := id h
    exact ⟨n, q1, q2, q3⟩
  obtain ⟨hn, e5, g5⟩ := hG
  by_cases hA : nI 0 ≤ p1 ∧ p1 ≤ nI 31
  case neg =>
    have hr : ∀ b : Int32, sX11_goes w (nI 0) b = some (nI 0, setTh w (nI 1)) := m_go0 w
    refine Or.inr (Or.inl ⟨(nI 0, setTh w (nI 1)), ?_, ?_, rfl, h.th (nI 1)⟩)
    · simp (disch := omega) only [sX10_addHopping, c_arg, hA, ↓reduceIte, e_lt, e_bd, e_grd, e_clamp, e_l0, e_l1, e_l2, e_l3, e_l4, e_l5, e_l6, e_l7, e_l8, e_l9, e_l10, e_l12, e_l13, e_l20, e_l31, e_l32, e_l45, e_l48, e_l50, e_l57, e_l58, e_l59, e_l64, e_l70, e_l100, e_l106, e_l127, e_l138, e_l554, e_l799, e_l804, e_l1000, e_l2000, e_l2412, e_l100000, e_m1, nI_add, ni_mul, ni_sub, nI_clamp, e_ltT, e_ltF, e_leT, e_leF, e_eqT, e_eqF, e_mE, e_Em, e_mlt, e_mle, e_ltm, e_lem, e_gz, e_gt, e_bs, ite_self, e_el, e_er, tq_get, tq_set, tq_inc, tb_get_neg, tb_set_neg, and_true, true_and, and_false, false_and, not_false_eq_true, not_true_eq_false] <;> rfl
    · rcases Nat.lt_or_ge hS 10 with q | q
      · simp (disch := omega) only [sX11_addHopping, m_isC, m_in_1_31, m_in_1_1000, m_isL, m_isS, hA, hz, g5, m_go0, ↓reduceIte, e_lt, e_bd, e_grd, e_clamp, e_l0, e_l1, e_l2, e_l3, e_l4, e_l5, e_l6, e_l7, e_l8, e_l9, e_l10, e_l12, e_l13, e_l20, e_l31, e_l32, e_l45, e_l48, e_l50, e_l57, e_l58, e_l59, e_l64, e_l70, e_l100, e_l106, e_l127, e_l138, e_l554, e_l799, e_l804, e_l1000, e_l2000, e_l2412, e_l100000, e_m1, nI_add, ni_mul, ni_sub, nI_clamp, e_ltT, e_ltF, e_leT, e_leF, e_eqT, e_eqF, e_mE, e_Em, e_mlt, e_mle, e_ltm, e_lem, e_gz, e_gt, e_bs, ite_self, e_el, e_er, tq_get, tq_set, tq_inc, tb_get_neg, tb_set_neg, and_true, true_and, and_false, false_and, not_false_eq_true, not_true_eq_false] <;> rfl
      · simp (disch := omega) only [sX11_addHopping, m_isC, m_in_1_31, m_in_1_1000, m_isL, m_isS, hA, hz, g5, m_go0, ↓reduceIte, e_lt, e_bd, e_grd, e_clamp, e_l0, e_l1, e_l2, e_l3, e_l4, e_l5, e_l6, e_l7, e_l8, e_l9, e_l10, e_l12, e_l13, e_l20, e_l31, e_l32, e_l45, e_l48, e_l50, e_l57, e_l58, e_l59, e_l64, e_l70, e_l100, e_l106, e_l127, e_l138, e_l554, e_l799, e_l804, e_l1000, e_l2000, e_l2412, e_l100000, e_m1, nI_add, ni_mul, ni_sub, nI_clamp, e_ltT, e_ltF, e_leT, e_leF, e_eqT, e_eqF, e_mE, e_Em, e_mlt, e_mle, e_ltm, e_lem, e_gz, e_gt, e_bs, ite_self, e_el, e_er, tq_get, tq_set, tq_inc, tb_get_neg, tb_set_neg, and_true, true_and, and_false, false_and, not_false_eq_true, not_true_eq_false] <;> rfl
  by_cases hB : nI 1 ≤ p2 ∧ p2 ≤ nI 31
  case neg =>
    have hr : ∀ b : Int32, sX11_goes w (nI 0) b = some (nI 0, setTh w (nI 1)) := m_go0 w
    refine Or.inr (Or.inl ⟨(nI 0, setTh w (nI 1)), ?_, ?_, rfl, h.th (nI 1)⟩)
    · simp (disch := omega) only [sX10_addHopping, c_arg, hA, hB, ↓reduceIte, e_lt, e_bd, e_grd, e_clamp, e_l0, e_l1, e_l2, e_l3, e_l4, e_l5, e_l6, e_l7, e_l8, e_l9, e_l10, e_l12, e_l13, e_l20, e_l31, e_l32, e_l45, e_l48, e_l50, e_l57, e_l58, e_l59, e_l64, e_l70, e_l100, e_l106, e_l127, e_l138, e_l554, e_l799, e_l804, e_l1000, e_l2000, e_l2412, e_l100000, e_m1, nI_add, ni_mul, ni_sub, nI_clamp, e_ltT, e_ltF, e_leT, e_leF, e_eqT, e_eqF, e_mE, e_Em, e_mlt, e_mle, e_ltm, e_lem, e_gz, e_gt, e_bs, ite_self, e_el, e_er, tq_get, tq_set, tq_inc, tb_get_neg, tb_set_neg, and_true, true_and, and_false, false_and, not_false_eq_true, not_true_eq_false] <;> rfl
    · rcases Nat.lt_or_ge hS 10 with q | q
      · simp (disch := omega) only [sX11_addHopping, m_isC, m_in_1_31, m_in_1_1000, m_isL, m_isS, hA, hB, hz, g5, m_go0, ↓reduceIte, e_lt, e_bd, e_grd, e_clamp, e_l0, e_l1, e_l2, e_l3, e_l4, e_l5, e_l6, e_l7, e_l8, e_l9, e_l10, e_l12, e_l13, e_l20, e_l31, e_l32, e_l45, e_l48, e_l50, e_l57, e_l58, e_l59, e_l64, e_l70, e_l100, e_l106, e_l127, e_l138, e_l554, e_l799, e_l804, e_l1000, e_l2000, e_l2412, e_l100000, e_m1, nI_add, ni_mul, ni_sub, nI_clamp, e_ltT, e_ltF, e_leT, e_leF, e_eqT, e_eqF, e_mE, e_Em, e_mlt, e_mle, e_ltm, e_lem, e_gz, e_gt, e_bs, ite_self, e_el, e_er, tq_get, tq_set, tq_inc, tb_get_neg, tb_set_neg, and_true, true_and, and_false, false_and, not_false_eq_true, not_true_eq_false] <;> rfl
      · simp (disch := omega) only [sX11_addHopping, m_isC, m_in_1_31, m_in_1_1000, m_isL, m_isS, hA, hB, hz, g5, m_go0, ↓reduceIte, e_lt, e_bd, e_grd, e_clamp, e_l0, e_l1, e_l2, e_l3, e_l4, e_l5, e_l6, e_l7, e_l8, e_l9, e_l10, e_l12, e_l13, e_l20, e_l31, e_l32, e_l45, e_l48, e_l50, e_l57, e_l58, e_l59, e_l64, e_l70, e_l100, e_l106, e_l127, e_l138, e_l554, e_l799, e_l804, e_l1000, e_l2000, e_l2412, e_l100000, e_m1, nI_add, ni_mul, ni_sub, nI_clamp, e_ltT, e_ltF, e_leT, e_leF, e_eqT, e_eqF, e_mE, e_Em, e_mlt, e_mle, e_ltm, e_lem, e_gz, e_gt, e_bs, ite_self, e_el, e_er, tq_get, tq_set, tq_inc, tb_get_neg, tb_set_neg, and_true, true_and, and_false, false_and, not_false_eq_true, not_true_eq_false] <;> rfl
  by_cases hC : nI 1 ≤ p3 ∧ p3 ≤ nI 1000
  case neg =>
    have hr : ∀ b : Int32, sX11_goes w (nI 0) b = some (nI 0, setTh w (nI 1)) := m_go0 w
    refine Or.inr (Or.inl ⟨(nI 0, setTh w (nI 1)), ?_, ?_, rfl, h.th (nI 1)⟩)
    · simp (disch := omega) only [sX10_addHopping, c_arg, hA, hB, hC, ↓reduceIte, e_lt, e_bd, e_grd, e_clamp, e_l0, e_l1, e_l2, e_l3, e_l4, e_l5, e_l6, e_l7, e_l8, e_l9, e_l10, e_l12, e_l13, e_l20, e_l31, e_l32, e_l45, e_l48, e_l50, e_l57, e_l58, e_l59, e_l64, e_l70, e_l100, e_l106, e_l127, e_l138, e_l554, e_l799, e_l804, e_l1000, e_l2000, e_l2412, e_l100000, e_m1, nI_add, ni_mul, ni_sub, nI_clamp, e_ltT, e_ltF, e_leT, e_leF, e_eqT, e_eqF, e_mE, e_Em, e_mlt, e_mle, e_ltm, e_lem, e_gz, e_gt, e_bs, ite_self, e_el, e_er, tq_get, tq_set, tq_inc, tb_get_neg, tb_set_neg, and_true, true_and, and_false, false_and, not_false_eq_true, not_true_eq_false] <;> rfl
    · rcases Nat.lt_or_ge hS 10 with q | q
      · simp (disch := omega) only [sX11_addHopping, m_isC, m_in_1_31, m_in_1_1000, m_isL, m_isS, hA, hB, hC, hz, g5, m_go0, ↓reduceIte, e_lt, e_bd, e_grd, e_clamp, e_l0, e_l1, e_l2, e_l3, e_l4, e_l5, e_l6, e_l7, e_l8, e_l9, e_l10, e_l12, e_l13, e_l20, e_l31, e_l32, e_l45, e_l48, e_l50, e_l57, e_l58, e_l59, e_l64, e_l70, e_l100, e_l106, e_l127, e_l138, e_l554, e_l799, e_l804, e_l1000, e_l2000, e_l2412, e_l100000, e_m1, nI_add, ni_mul, ni_sub, nI_clamp, e_ltT, e_ltF, e_leT, e_leF, e_eqT, e_eqF, e_mE, e_Em, e_mlt, e_mle, e_ltm, e_lem, e_gz, e_gt, e_bs, ite_self, e_el, e_er, tq_get, tq_set, tq_inc, tb_get_neg, tb_set_neg, and_true, true_and, and_false, false_and, not_false_eq_true, not_true_eq_false] <;> rfl
      · simp (disch := omega) only [sX11_addHopping, m_isC, m_in_1_31, m_in_1_1000, m_isL, m_isS, hA, hB, hC, hz, g5, m_go0, ↓reduceIte, e_lt, e_bd, e_grd, e_clamp, e_l0, e_l1, e_l2, e_l3, e_l4, e_l5, e_l6, e_l7, e_l8, e_l9, e_l10, e_l12, e_l13, e_l20, e_l31, e_l32, e_l45, e_l48, e_l50, e_l57, e_l58, e_l59, e_l64, e_l70, e_l100, e_l106, e_l127, e_l138, e_l554, e_l799, e_l804, e_l1000, e_l2000, e_l2412, e_l100000, e_m1, nI_add, ni_mul, ni_sub, nI_clamp, e_ltT, e_ltF, e_leT, e_leF, e_eqT, e_eqF, e_mE, e_Em, e_mlt, e_mle, e_ltm, e_lem, e_gz, e_gt, e_bs, ite_self, e_el, e_er, tq_get, tq_set, tq_inc, tb_get_neg, tb_set_neg, and_true, true_and, and_false, false_and, not_false_eq_true, not_true_eq_false] <;> rfl
  by_cases hD : nI 0 ≤ p4 ∧ p4 ≤ nI 100
  case neg =>
    have hr : ∀ b : Int32, sX11_goes w (nI 0) b = some (nI 0, setTh w (nI 1)) := m_go0 w
    refine Or.inr (Or.inl ⟨(nI 0, setTh w (nI 1)), ?_, ?_, rfl, h.th (nI 1)⟩)
    · simp (disch := omega) only [sX10_addHopping, c_arg, hA, hB, hC, hD, ↓reduceIte, e_lt, e_bd, e_grd, e_clamp, e_l0, e_l1, e_l2, e_l3, e_l4, e_l5, e_l6, e_l7, e_l8, e_l9, e_l10, e_l12, e_l13, e_l20, e_l31, e_l32, e_l45, e_l48, e_l50, e_l57, e_l58, e_l59, e_l64, e_l70, e_l100, e_l106, e_l127, e_l138, e_l554, e_l799, e_l804, e_l1000, e_l2000, e_l2412, e_l100000, e_m1, nI_add, ni_mul, ni_sub, nI_clamp, e_ltT, e_ltF, e_leT, e_leF, e_eqT, e_eqF, e_mE, e_Em, e_mlt, e_mle, e_ltm, e_lem, e_gz, e_gt, e_bs, ite_self, e_el, e_er, tq_get, tq_set, tq_inc, tb_get_neg, tb_set_neg, and_true, true_and, and_false, false_and, not_false_eq_true, not_true_eq_false] <;> rfl
    · rcases Nat.lt_or_ge hS 10 with q | q
      · simp (disch := omega) only [sX11_addHopping, m_isC, m_in_1_31, m_in_1_1000, m_isL, m_isS, hA, hB, hC, hD, hz, g5, m_go0, ↓reduceIte, e_lt, e_bd, e_grd, e_clamp, e_l0, e_l1, e_l2, e_l3, e_l4, e_l5, e_l6, e_l7, e_l8, e_l9, e_l10, e_l12, e_l13, e_l20, e_l31, e_l32, e_l45, e_l48, e_l50, e_l57, e_l58, e_l59, e_l64, e_l70, e_l100, e_l106, e_l127, e_l138, e_l554, e_l799, e_l804, e_l1000, e_l2000, e_l2412, e_l100000, e_m1, nI_add, ni_mul, ni_sub, nI_clamp, e_ltT, e_ltF, e_leT, e_leF, e_eqT, e_eqF, e_mE, e_Em, e_mlt, e_mle, e_ltm, e_lem, e_gz, e_gt, e_bs, ite_self, e_el, e_er, tq_get, tq_set, tq_inc, tb_get_neg, tb_set_neg, and_true, true_and, and_false, false_and, not_false_eq_true, not_true_eq_false] <;> rfl
      · simp (disch := omega) only [sX11_addHopping, m_isC, m_in_1_31, m_in_1_1000, m_isL, m_isS, hA, hB, hC, hD, hz, g5, m_go0, ↓reduceIte, e_lt, e_bd, e_grd, e_clamp, e_l0, e_l1, e_l2, e_l3, e_l4, e_l5, e_l6, e_l7, e_l8, e_l9, e_l10, e_l12, e_l13, e_l20, e_l31, e_l32, e_l45, e_l48, e_l50, e_l57, e_l58, e_l59, e_l64, e_l70, e_l100, e_l106, e_l127, e_l138, e_l554, e_l799, e_l804, e_l1000, e_l2000, e_l2412, e_l100000, e_m1, nI_add, ni_mul, ni_sub, nI_clamp, e_ltT, e_ltF, e_leT, e_leF, e_eqT, e_eqF, e_mE, e_Em, e_mlt, e_mle, e_ltm, e_lem, e_gz, e_gt, e_bs, ite_self, e_el, e_er, tq_get, tq_set, tq_inc, tb_get_neg, tb_set_neg, and_true, true_and, and_false, false_and, not_false_eq_true, not_true_eq_false] <;> rfl
  by_cases hE : nI 0 ≤ p5 ∧ p5 ≤ nI 100000
  case neg =>
    have hr : ∀ b : Int32, sX11_goes w (nI 0) b = some (nI 0, setTh w (nI 1)) := m_go0 w
    refine Or.inr (Or.inl ⟨(nI 0, setTh w (nI 1)), ?_, ?_, rfl, h.th (nI 1)⟩)
    · simp (disch := omega) only [sX10_addHopping, c_arg, hA, hB, hC, hD, hE, ↓reduceIte, e_lt, e_bd, e_grd, e_clamp, e_l0, e_l1, e_l2, e_l3, e_l4, e_l5, e_l6, e_l7, e_l8, e_l9, e_l10, e_l12, e_l13, e_l20, e_l31, e_l32, e_l45, e_l48, e_l50, e_l57, e_l58, e_l59, e_l64, e_l70, e_l100, e_l106, e_l127, e_l138, e_l554, e_l799, e_l804, e_l1000, e_l2000, e_l2412, e_l100000, e_m1, nI_add, ni_mul, ni_sub, nI_clamp, e_ltT, e_ltF, e_leT, e_leF, e_eqT, e_eqF, e_mE, e_Em, e_mlt, e_mle, e_ltm, e_lem, e_gz, e_gt, e_bs, ite_self, e_el, e_er, tq_get, tq_set, tq_inc, tb_get_neg, tb_set_neg, and_true, true_and, and_false, false_and, not_false_eq_true, not_true_eq_false] <;> rfl
    · rcases Nat.lt_or_ge hS 10 with q | q
      · simp (disch := omega) only [sX11_addHopping, m_isC, m_in_1_31, m_in_1_1000, m_isL, m_isS, hA, hB, hC, hD, hE, hz, g5, m_go0, ↓reduceIte, e_lt, e_bd, e_grd, e_clamp, e_l0, e_l1, e_l2, e_l3, e_l4, e_l5, e_l6, e_l7, e_l8, e_l9, e_l10, e_l12, e_l13, e_l20, e_l31, e_l32, e_l45, e_l48, e_l50, e_l57, e_l58, e_l59, e_l64, e_l70, e_l100, e_l106, e_l127, e_l138, e_l554, e_l799, e_l804, e_l1000, e_l2000, e_l2412, e_l100000, e_m1, nI_add, ni_mul, ni_sub, nI_clamp, e_ltT, e_ltF, e_leT, e_leF, e_eqT, e_eqF, e_mE, e_Em, e_mlt, e_mle, e_ltm, e_lem, e_gz, e_gt, e_bs, ite_self, e_el, e_er, tq_get, tq_set, tq_inc, tb_get_neg, tb_set_neg, and_true, true_and, and_false, false_and, not_false_eq_true, not_true_eq_false] <;> rfl
      · simp (disch := omega) only [sX11_addHopping, m_isC, m_in_1_31, m_in_1_1000, m_isL, m_isS, hA, hB, hC, hD, hE, hz, g5, m_go0, ↓reduceIte, e_lt, e_bd, e_grd, e_clamp, e_l0, e_l1, e_l2, e_l3, e_l4, e_l5, e_l6, e_l7, e_l8, e_l9, e_l10, e_l12, e_l13, e_l20, e_l31, e_l32, e_l45, e_l48, e_l50, e_l57, e_l58, e_l59, e_l64, e_l70, e_l100, e_l106, e_l127, e_l138, e_l554, e_l799, e_l804, e_l1000, e_l2000, e_l2412, e_l100000, e_m1, nI_add, ni_mul, ni_sub, nI_clamp, e_ltT, e_ltF, e_leT, e_leF, e_eqT, e_eqF, e_mE, e_Em, e_mlt, e_mle, e_ltm, e_lem, e_gz, e_gt, e_bs, ite_self, e_el, e_er, tq_get, tq_set, tq_inc, tb_get_neg, tb_set_neg, and_true, true_and, and_false, false_and, not_false_eq_true, not_true_eq_false] <;> rfl
  by_cases hF : hS < 10
  case neg =>
    refine Or.inr (Or.inr ⟨(nI 0, setTh w (nI 2)), ?_, ?_, rfl, h.th (nI 2)⟩)
    · simp (disch := omega) only [sX10_addHopping, c_arg, c_room, e5, hA, hB, hC, hD, hE, ↓reduceIte, e_lt, e_bd, e_grd, e_clamp, e_l0, e_l1, e_l2, e_l3, e_l4, e_l5, e_l6, e_l7, e_l8, e_l9, e_l10, e_l12, e_l13, e_l20, e_l31, e_l32, e_l45, e_l48, e_l50, e_l57, e_l58, e_l59, e_l64, e_l70, e_l100, e_l106, e_l127, e_l138, e_l554, e_l799, e_l804, e_l1000, e_l2000, e_l2412, e_l100000, e_m1, nI_add, ni_mul, ni_sub, nI_clamp, e_ltT, e_ltF, e_leT, e_leF, e_eqT, e_eqF, e_mE, e_Em, e_mlt, e_mle, e_ltm, e_lem, e_gz, e_gt, e_bs, ite_self, e_el, e_er, tq_get, tq_set, tq_inc, tb_get_neg, tb_set_neg, and_true, true_and, and_false, false_and, not_false_eq_true, not_true_eq_false] <;> rfl
    · simp (disch := omega) only [sX11_addHopping, m_isC, m_in_1_31, m_in_1_1000, m_isL, m_isS, hA, hB, hC, hD, hE, hz, g5, m_go10, ↓reduceIte, e_lt, e_bd, e_grd, e_clamp, e_l0, e_l1, e_l2, e_l3, e_l4, e_l5, e_l6, e_l7, e_l8, e_l9, e_l10, e_l12, e_l13, e_l20, e_l31, e_l32, e_l45, e_l48, e_l50, e_l57, e_l58, e_l59, e_l64, e_l70, e_l100, e_l106, e_l127, e_l138, e_l554, e_l799, e_l804, e_l1000, e_l2000, e_l2412, e_l100000, e_m1, nI_add, ni_mul, ni_sub, nI_clamp, e_ltT, e_ltF, e_leT, e_leF, e_eqT, e_eqF, e_mE, e_Em, e_mlt, e_mle, e_ltm, e_lem, e_gz, e_gt, e_bs, ite_self, e_el, e_er, tq_get, tq_set, tq_inc, tb_get_neg, tb_set_neg, and_true, true_and, and_false, false_and, not_false_eq_true, not_true_eq_false] <;> rfl
  obtain ⟨hv, sv, m, e1, e2, e3⟩ := sv_both h hN (nI 0)
  obtain ⟨f, hf⟩ := (show TB 10 6 v.2.2.1.1.1 from h.2.2.1.1.1).ex
  have hs : v.2.2.1.1 = ((nI 10, nI 6, 10 * 6, f), nI hS) := by
    rw [← hf, ← e5]
  have ha := m_adds (w := ((w.1.1, w.1.2), (w.2.1.1, sv), nI m, nI 0, w.2.2.2.2)) hz g5 hF (nI 1) p1 p2 p3 p4 p5
  simp only [hz] at e2 ha
  refine Or.inl ⟨(nI hS, (v.1, v.2.1, (((nI 10, nI 6, 10 * 6, row6 f (hS * 6 + 0) (nI 1) p1 p2 p3 p4 p5), nI (hS + 1)), v.2.2.1.2), hv, v.2.2.2.2.1, v.2.2.2.2.2)), (nI hS, ((w.1.1, upd (row6 w.1.2 (10 + 6 * hS) (nI 1) p1 p2 p3 p4 p5) 5 (nI (hS + 1))), (w.2.1.1, sv), nI m, nI 0, w.2.2.2.2)), ?_, ?_, rfl, rfl, ?_⟩
  · simp (disch := omega) only [sX10_addHopping, c_arg, c_room, e5, hA, hB, hC, hD, hE, e1, hs, c_add, c_put, ↓reduceIte, e_lt, e_bd, e_grd, e_clamp, e_l0, e_l1, e_l2, e_l3, e_l4, e_l5, e_l6, e_l7, e_l8, e_l9, e_l10, e_l12, e_l13, e_l20, e_l31, e_l32, e_l45, e_l48, e_l50, e_l57, e_l58, e_l59, e_l64, e_l70, e_l100, e_l106, e_l127, e_l138, e_l554, e_l799, e_l804, e_l1000, e_l2000, e_l2412, e_l100000, e_m1, nI_add, ni_mul, ni_sub, nI_clamp, e_ltT, e_ltF, e_leT, e_leF, e_eqT, e_eqF, e_mE, e_Em, e_mlt, e_mle, e_ltm, e_lem, e_gz, e_gt, e_bs, ite_self, e_el, e_er, tq_get, tq_set, tq_inc, tb_get_neg, tb_set_neg, and_true, true_and, and_false, false_and, not_false_eq_true, not_true_eq_false] <;> rfl
  · simp (disch := omega) only [sX11_addHopping, m_isC, m_in_1_31, m_in_1_1000, m_isL, m_isS, hA, hB, hC, hD, hE, hz, g5, Option.bind_some, ↓reduceIte, e_k0, e_k1, e_k2, e_k3, e_k4, e_k5, e_k6, e_k7, e_k8, e_k9]
    simp (disch := omega) only [hF, hz, m_go11, e2, ha, ↓reduceIte, e_lt, e_bd, e_grd, e_clamp, e_l0, e_l1, e_l2, e_l3, e_l4, e_l5, e_l6, e_l7, e_l8, e_l9, e_l10, e_l12, e_l13, e_l20, e_l31, e_l32, e_l45, e_l48, e_l50, e_l57, e_l58, e_l59, e_l64, e_l70, e_l100, e_l106, e_l127, e_l138, e_l554, e_l799, e_l804, e_l1000, e_l2000, e_l2412, e_l100000, e_m1, nI_add, ni_mul, ni_sub, nI_clamp, e_ltT, e_ltF, e_leT, e_leF, e_eqT, e_eqF, e_mE, e_Em, e_mlt, e_mle, e_ltm, e_lem, e_gz, e_gt, e_bs, ite_self, e_el, e_er, tq_get, tq_set, tq_inc, tb_get_neg, tb_set_neg, and_true, true_and, and_false, false_and, not_false_eq_true, not_true_eq_false] <;> rfl
  · refine RR.up h (ST.sig (h.2.2.1.mono (by omega)) (sig_add hF (by rw [← hs]; exact h.2.2.1.1) ?_) (fun k hk => ?_)) e3
    · unfold sigOk row6
      obtain ⟨a1, -, b1, rfl⟩ := rg_of (by decide) (by decide) hA.1 hA.2
      obtain ⟨a2, c2, b2, rfl⟩ := rg_of (by decide) (by decide) hB.1 hB.2
      obtain ⟨a3, c3, b3, rfl⟩ := rg_of (by decide) (by decide) hC.1 hC.2
      obtain ⟨a4, -, b4, rfl⟩ := rg_of (by decide) (by decide) hD.1 hD.2
      obtain ⟨a5, -, b5, rfl⟩ := rg_of (by decide) (by decide) hE.1 hE.2
      refine Or.inr ⟨?_, ⟨a1, by omega, ?_⟩, ⟨a2, c2, by omega, ?_⟩, ⟨a3, c3, b3, ?_⟩, ⟨a4, b4, ?_⟩, a5, b5, ?_⟩ <;> simp (disch := omega) only [e_ne, e_eq]
    · rw [e_ne (by omega), row6_out (by omega)]
