/-! questions about chains -/
theorem q_first {w : V11} {n : Nat} {F1 : Nat → Int32} (h5 : w.2.2.2.2.2.2.2.2.2.2.2.2.1.1 = 50) (hn : n ≤ 50) (hC : CHN n w.2.2.2.2.2.2.2.2.2.2.2.2.1.2 F1) : ∀ e, e < n → ∀ M, e < M → qX11_firstOf_2 w M (nI e) = some (F1 e) := by
  intro e
  induction e using Nat.strongRecOn with
  | ind e ih =>
    intro he M hM
    obtain ⟨M, rfl⟩ : ∃ N', M = N' + 1 := ⟨M - 1, by omega⟩
    obtain ⟨x, c1, c2, ⟨c3, c4⟩ | ⟨j, c3, c4, c5⟩⟩ := hC e he
    · subst c4
      rw [qX11_firstOf_2]
      simp (disch := omega) only [h5, c3, c2, ↓reduceIte, e_lt, e_bd, e_grd, e_clamp, e_l0, e_l1, e_l2, e_l3, e_l4, e_l5, e_l6, e_l7, e_l8, e_l9, e_l10, e_l12, e_l13, e_l20, e_l31, e_l32, e_l45, e_l48, e_l50, e_l57, e_l58, e_l59, e_l64, e_l70, e_l100, e_l106, e_l127, e_l138, e_l554, e_l799, e_l804, e_l1000, e_l2000, e_l2412, e_l100000, e_m1, nI_add, ni_mul, ni_sub, nI_clamp, e_ltT, e_ltF, e_leT, e_leF, e_eqT, e_eqF, e_mE, e_Em, e_mlt, e_mle, e_ltm, e_lem, e_gz, e_gt, e_bs, ite_self, e_el, e_er, tq_get, tq_set, tq_inc, tb_get_neg, tb_set_neg, and_true, true_and, and_false, false_and, not_false_eq_true, not_true_eq_false] <;> rfl
    · have hi := ih j c3 (by omega) M (by omega)
      rw [c5] at hi
      rw [qX11_firstOf_2]
      simp (disch := omega) only [h5, c4, hi, ↓reduceIte, e_lt, e_bd, e_grd, e_clamp, e_l0, e_l1, e_l2, e_l3, e_l4, e_l5, e_l6, e_l7, e_l8, e_l9, e_l10, e_l12, e_l13, e_l20, e_l31, e_l32, e_l45, e_l48, e_l50, e_l57, e_l58, e_l59, e_l64, e_l70, e_l100, e_l106, e_l127, e_l138, e_l554, e_l799, e_l804, e_l1000, e_l2000, e_l2412, e_l100000, e_m1, nI_add, ni_mul, ni_sub, nI_clamp, e_ltT, e_ltF, e_leT, e_leF, e_eqT, e_eqF, e_mE, e_Em, e_mlt, e_mle, e_ltm, e_lem, e_gz, e_gt, e_bs, ite_self, e_el, e_er, tq_get, tq_set, tq_inc, tb_get_neg, tb_set_neg, and_true, true_and, and_false, false_and, not_false_eq_true, not_true_eq_false] <;> rfl
theorem m_first {w : V11} {n N e : Nat} {F1 : Nat → Int32} (hN : 5000 ≤ N) (h5 : w.2.2.2.2.2.2.2.2.2.2.2.2.1.1 = 50) (hn : n ≤ 50) (hC : CHN n w.2.2.2.2.2.2.2.2.2.2.2.2.1.2 F1) (he : e < n) : sX11_firstOf N w (nI e) = some (F1 e) := by
  have := q_first h5 hn hC e he N (by omega)
  simp (disch := omega) only [sX11_firstOf, this, ↓reduceIte, e_lt, e_bd, e_grd, e_clamp, e_l0, e_l1, e_l2, e_l3, e_l4, e_l5, e_l6, e_l7, e_l8, e_l9, e_l10, e_l12, e_l13, e_l20, e_l31, e_l32, e_l45, e_l48, e_l50, e_l57, e_l58, e_l59, e_l64, e_l70, e_l100, e_l106, e_l127, e_l138, e_l554, e_l799, e_l804, e_l1000, e_l2000, e_l2412, e_l100000, e_m1, nI_add, ni_mul, ni_sub, nI_clamp, e_ltT, e_ltF, e_leT, e_leF, e_eqT, e_eqF, e_mE, e_Em, e_mlt, e_mle, e_ltm, e_lem, e_gz, e_gt, e_bs, ite_self, e_el, e_er, tq_get, tq_set, tq_inc, tb_get_neg, tb_set_neg, and_true, true_and, and_false, false_and, not_false_eq_true, not_true_eq_false] <;> rfl
theorem CHN.idem {n : Nat} {bf F1 : Nat → Int32} (hn : n ≤ 50) (hC : CHN n bf F1) : ∀ e, e < n → ∃ x, x < n ∧ F1 e = nI x ∧ F1 x = nI x := by
  intro e
  induction e using Nat.strongRecOn with
  | ind e ih =>
    intro he
    obtain ⟨y, c1, c2, ⟨c3, c4⟩ | ⟨j, c3, c4, c5⟩⟩ := hC e he
    · subst c4
      exact ⟨y, he, c2, c2⟩
    · obtain ⟨x, z1, z2, z3⟩ := ih j c3 (by omega)
      exact ⟨x, z1, c5.symm.trans z2, z3⟩
section QV
variable {n : Nat} {y1 y2 y3 : Nat → Int32}
theorem c_first {e : Nat} (hn : n ≤ 50) (he : e < n) : sX4_firstOf ((50, y1), (50, y2), (50, y3), nI n) (nI e) = some (y3 e) := by
  simp (disch := omega) only [sX4_firstOf, c_within, ↓reduceIte, e_lt, e_bd, e_grd, e_clamp, e_l0, e_l1, e_l2, e_l3, e_l4, e_l5, e_l6, e_l7, e_l8, e_l9, e_l10, e_l12, e_l13, e_l20, e_l31, e_l32, e_l45, e_l48, e_l50, e_l57, e_l58, e_l59, e_l64, e_l70, e_l100, e_l106, e_l127, e_l138, e_l554, e_l799, e_l804, e_l1000, e_l2000, e_l2412, e_l100000, e_m1, nI_add, ni_mul, ni_sub, nI_clamp, e_ltT, e_ltF, e_leT, e_leF, e_eqT, e_eqF, e_mE, e_Em, e_mlt, e_mle, e_ltm, e_lem, e_gz, e_gt, e_bs, ite_self, e_el, e_er, tq_get, tq_set, tq_inc, tb_get_neg, tb_set_neg, and_true, true_and, and_false, false_and, not_false_eq_true, not_true_eq_false] <;> rfl
theorem c_pred {e : Nat} (hn : n ≤ 50) (he : e < n) : sX4_predecessorOf ((50, y1), (50, y2), (50, y3), nI n) (nI e) = some (y1 e) := by
  simp (disch := omega) only [sX4_predecessorOf, c_within, ↓reduceIte, e_lt, e_bd, e_grd, e_clamp, e_l0, e_l1, e_l2, e_l3, e_l4, e_l5, e_l6, e_l7, e_l8, e_l9, e_l10, e_l12, e_l13, e_l20, e_l31, e_l32, e_l45, e_l48, e_l50, e_l57, e_l58, e_l59, e_l64, e_l70, e_l100, e_l106, e_l127, e_l138, e_l554, e_l799, e_l804, e_l1000, e_l2000, e_l2412, e_l100000, e_m1, nI_add, ni_mul, ni_sub, nI_clamp, e_ltT, e_ltF, e_leT, e_leF, e_eqT, e_eqF, e_mE, e_Em, e_mlt, e_mle, e_ltm, e_lem, e_gz, e_gt, e_bs, ite_self, e_el, e_er, tq_get, tq_set, tq_inc, tb_get_neg, tb_set_neg, and_true, true_and, and_false, false_and, not_false_eq_true, not_true_eq_false] <;> rfl
/-- the number of chains -/
theorem nb_loop {w : V11} (hn : n ≤ 50) (hz : w.1.1 = 804) (g9 : w.1.2 9 = nI n) (h5 : w.2.2.2.2.2.2.2.2.2.2.2.2.1.1 = 50) (hC : CHN n w.2.2.2.2.2.2.2.2.2.2.2.2.1.2 y3) : ∀ (d i : Nat) (acc : Int32), i + d = n → ∃ x, (∀ M, d < M → qX4_number_4 ((50, y1), (50, y2), (50, y3), nI n) M acc (nI i) = some (x, nI n)) ∧ ∀ M, d < M → qX11_chains_13 w M acc (nI i) = some (x, nI n) := by
  intro d
  induction d with
  | zero =>
    intro i acc hi
    have : i = n := by omega
    subst this
    refine ⟨acc, fun M hM => ?_, fun M hM => ?_⟩
    · obtain ⟨M, rfl⟩ : ∃ N', M = N' + 1 := ⟨M - 1, by omega⟩
      rw [qX4_number_4]
      simp (disch := omega) only [↓reduceIte, e_lt, e_bd, e_grd, e_clamp, e_l0, e_l1, e_l2, e_l3, e_l4, e_l5, e_l6, e_l7, e_l8, e_l9, e_l10, e_l12, e_l13, e_l20, e_l31, e_l32, e_l45, e_l48, e_l50, e_l57, e_l58, e_l59, e_l64, e_l70, e_l100, e_l106, e_l127, e_l138, e_l554, e_l799, e_l804, e_l1000, e_l2000, e_l2412, e_l100000, e_m1, nI_add, ni_mul, ni_sub, nI_clamp, e_ltT, e_ltF, e_leT, e_leF, e_eqT, e_eqF, e_mE, e_Em, e_mlt, e_mle, e_ltm, e_lem, e_gz, e_gt, e_bs, ite_self, e_el, e_er, tq_get, tq_set, tq_inc, tb_get_neg, tb_set_neg, and_true, true_and, and_false, false_and, not_false_eq_true, not_true_eq_false] <;> rfl
    · obtain ⟨M, rfl⟩ : ∃ N', M = N' + 1 := ⟨M - 1, by omega⟩
      rw [qX11_chains_13]
      simp (disch := omega) only [hz, g9, ↓reduceIte, e_lt, e_bd, e_grd, e_clamp, e_l0, e_l1, e_l2, e_l3, e_l4, e_l5, e_l6, e_l7, e_l8, e_l9, e_l10, e_l12, e_l13, e_l20, e_l31, e_l32, e_l45, e_l48, e_l50, e_l57, e_l58, e_l59, e_l64, e_l70, e_l100, e_l106, e_l127, e_l138, e_l554, e_l799, e_l804, e_l1000, e_l2000, e_l2412, e_l100000, e_m1, nI_add, ni_mul, ni_sub, nI_clamp, e_ltT, e_ltF, e_leT, e_leF, e_eqT, e_eqF, e_mE, e_Em, e_mlt, e_mle, e_ltm, e_lem, e_gz, e_gt, e_bs, ite_self, e_el, e_er, tq_get, tq_set, tq_inc, tb_get_neg, tb_set_neg, and_true, true_and, and_false, false_and, not_false_eq_true, not_true_eq_false] <;> rfl
  | succ d ih =>
    intro i acc hi
    obtain ⟨x, c1, c2, c3⟩ := hC i (by omega)
    by_cases q : x = i
    · subst q
      have hb : w.2.2.2.2.2.2.2.2.2.2.2.2.1.2 x = m1 := by
        rcases c3 with ⟨c3, -⟩ | ⟨j, c3, c4, c5⟩
        · exact c3
        · obtain ⟨z, z1, z2, -⟩ := hC j (by omega)
          rw [z2, c2] at c5
          have := (nI_eq (by omega) (by omega)).mp c5
          omega
      obtain ⟨y, e1, e2⟩ := ih (x + 1) (acc + nI 1) (by omega)
      refine ⟨y, fun M hM => ?_, fun M hM => ?_⟩
      · obtain ⟨M, rfl⟩ : ∃ N', M = N' + 1 := ⟨M - 1, by omega⟩
        have e1 := e1 M (by omega)
        rw [qX4_number_4]
        simp (disch := omega) only [c2, e1, ↓reduceIte, e_lt, e_bd, e_grd, e_clamp, e_l0, e_l1, e_l2, e_l3, e_l4, e_l5, e_l6, e_l7, e_l8, e_l9, e_l10, e_l12, e_l13, e_l20, e_l31, e_l32, e_l45, e_l48, e_l50, e_l57, e_l58, e_l59, e_l64, e_l70, e_l100, e_l106, e_l127, e_l138, e_l554, e_l799, e_l804, e_l1000, e_l2000, e_l2412, e_l100000, e_m1, nI_add, ni_mul, ni_sub, nI_clamp, e_ltT, e_ltF, e_leT, e_leF, e_eqT, e_eqF, e_mE, e_Em, e_mlt, e_mle, e_ltm, e_lem, e_gz, e_gt, e_bs, ite_self, e_el, e_er, tq_get, tq_set, tq_inc, tb_get_neg, tb_set_neg, and_true, true_and, and_false, false_and, not_false_eq_true, not_true_eq_false] <;> rfl
      · obtain ⟨M, rfl⟩ : ∃ N', M = N' + 1 := ⟨M - 1, by omega⟩
        have e2 := e2 M (by omega)
        rw [qX11_chains_13]
        simp (disch := omega) only [hz, g9, h5, hb, e2, ↓reduceIte, e_lt, e_bd, e_grd, e_clamp, e_l0, e_l1, e_l2, e_l3, e_l4, e_l5, e_l6, e_l7, e_l8, e_l9, e_l10, e_l12, e_l13, e_l20, e_l31, e_l32, e_l45, e_l48, e_l50, e_l57, e_l58, e_l59, e_l64, e_l70, e_l100, e_l106, e_l127, e_l138, e_l554, e_l799, e_l804, e_l1000, e_l2000, e_l2412, e_l100000, e_m1, nI_add, ni_mul, ni_sub, nI_clamp, e_ltT, e_ltF, e_leT, e_leF, e_eqT, e_eqF, e_mE, e_Em, e_mlt, e_mle, e_ltm, e_lem, e_gz, e_gt, e_bs, ite_self, e_el, e_er, tq_get, tq_set, tq_inc, tb_get_neg, tb_set_neg, and_true, true_and, and_false, false_and, not_false_eq_true, not_true_eq_false] <;> rfl
    · have hb : ¬ w.2.2.2.2.2.2.2.2.2.2.2.2.1.2 i = m1 := by
        rcases c3 with ⟨-, c3⟩ | ⟨j, c3, c4, c5⟩
        · exact absurd c3 q
        · rw [c4, e_mE (by omega)]
          exact id
      obtain ⟨y, e1, e2⟩ := ih (i + 1) (acc + nI 0) (by omega)
      refine ⟨y, fun M hM => ?_, fun M hM => ?_⟩
      · obtain ⟨M, rfl⟩ : ∃ N', M = N' + 1 := ⟨M - 1, by omega⟩
        have e1 := e1 M (by omega)
        rw [qX4_number_4]
        simp (disch := omega) only [c2, e1, ↓reduceIte, e_lt, e_bd, e_grd, e_clamp, e_l0, e_l1, e_l2, e_l3, e_l4, e_l5, e_l6, e_l7, e_l8, e_l9, e_l10, e_l12, e_l13, e_l20, e_l31, e_l32, e_l45, e_l48, e_l50, e_l57, e_l58, e_l59, e_l64, e_l70, e_l100, e_l106, e_l127, e_l138, e_l554, e_l799, e_l804, e_l1000, e_l2000, e_l2412, e_l100000, e_m1, nI_add, ni_mul, ni_sub, nI_clamp, e_ltT, e_ltF, e_leT, e_leF, e_eqT, e_eqF, e_mE, e_Em, e_mlt, e_mle, e_ltm, e_lem, e_gz, e_gt, e_bs, ite_self, e_el, e_er, tq_get, tq_set, tq_inc, tb_get_neg, tb_set_neg, and_true, true_and, and_false, false_and, not_false_eq_true, not_true_eq_false] <;> rfl
      · obtain ⟨M, rfl⟩ : ∃ N', M = N' + 1 := ⟨M - 1, by omega⟩
        have e2 := e2 M (by omega)
        rw [qX11_chains_13]
        simp (disch := omega) only [hz, g9, h5, hb, e2, ↓reduceIte, e_lt, e_bd, e_grd, e_clamp, e_l0, e_l1, e_l2, e_l3, e_l4, e_l5, e_l6, e_l7, e_l8, e_l9, e_l10, e_l12, e_l13, e_l20, e_l31, e_l32, e_l45, e_l48, e_l50, e_l57, e_l58, e_l59, e_l64, e_l70, e_l100, e_l106, e_l127, e_l138, e_l554, e_l799, e_l804, e_l1000, e_l2000, e_l2412, e_l100000, e_m1, nI_add, ni_mul, ni_sub, nI_clamp, e_ltT, e_ltF, e_leT, e_leF, e_eqT, e_eqF, e_mE, e_Em, e_mlt, e_mle, e_ltm, e_lem, e_gz, e_gt, e_bs, ite_self, e_el, e_er, tq_get, tq_set, tq_inc, tb_get_neg, tb_set_neg, and_true, true_and, and_false, false_and, not_false_eq_true, not_true_eq_false] <;> rfl
/-- length and last of a chain -/
theorem ln_loop {N : Nat} {w : V11} {x0 : Nat} (hN : 5000 ≤ N) (hn : n ≤ 50) (hz : w.1.1 = 804) (g9 : w.1.2 9 = nI n) (h5 : w.2.2.2.2.2.2.2.2.2.2.2.2.1.1 = 50) (hC : CHN n w.2.2.2.2.2.2.2.2.2.2.2.2.1.2 y3) (hx0 : x0 < n) (hf0 : y3 x0 = nI x0) :
    ∀ (d i c : Nat) (lc lr : Int32), i + d = n → c ≤ i → ((i ≤ x0 ∧ lc = m1 ∧ lr = nI x0) ∨ (x0 < i ∧ 1 ≤ c ∧ lc = lr ∧ ∃ z, z < n ∧ lc = nI z)) → ∃ (x : Nat) (l : Nat), 1 ≤ x ∧ x ≤ n ∧ l < n ∧ (∀ M, d < M → qX4_lengthFrom_4 ((50, y1), (50, y2), (50, y3), nI n) (nI x0) M (nI c) (nI i) = some (nI x, nI n)) ∧ (∀ M, d < M → qX4_lastFrom_4 ((50, y1), (50, y2), (50, y3), nI n) (nI x0) M lc (nI i) = some (nI l, nI n)) ∧ ∀ M, d < M → qX11_lengthOf_16 N w (nI x0) M (nI c) (nI i) lr = some (nI x, nI n, nI l) := by
  intro d
  induction d with
  | zero =>
    intro i c lc lr hi hc hl
    have : i = n := by omega
    subst this
    obtain ⟨q1, -⟩ | ⟨q1, q2, q3, z, q4, q5⟩ := hl
    · omega
    · subst q3; subst q5
      refine ⟨c, z, q2, hc, q4, fun M hM => ?_, fun M hM => ?_, fun M hM => ?_⟩
      · obtain ⟨M, rfl⟩ : ∃ N', M = N' + 1 := ⟨M - 1, by omega⟩
        rw [qX4_lengthFrom_4]
        simp (disch := omega) only [↓reduceIte, e_lt, e_bd, e_grd, e_clamp, e_l0, e_l1, e_l2, e_l3, e_l4, e_l5, e_l6, e_l7, e_l8, e_l9, e_l10, e_l12, e_l13, e_l20, e_l31, e_l32, e_l45, e_l48, e_l50, e_l57, e_l58, e_l59, e_l64, e_l70, e_l100, e_l106, e_l127, e_l138, e_l554, e_l799, e_l804, e_l1000, e_l2000, e_l2412, e_l100000, e_m1, nI_add, ni_mul, ni_sub, nI_clamp, e_ltT, e_ltF, e_leT, e_leF, e_eqT, e_eqF, e_mE, e_Em, e_mlt, e_mle, e_ltm, e_lem, e_gz, e_gt, e_bs, ite_self, e_el, e_er, tq_get, tq_set, tq_inc, tb_get_neg, tb_set_neg, and_true, true_and, and_false, false_and, not_false_eq_true, not_true_eq_false] <;> rfl
      · obtain ⟨M, rfl⟩ : ∃ N', M = N' + 1 := ⟨M - 1, by omega⟩
        rw [qX4_lastFrom_4]
        simp (disch := omega) only [↓reduceIte, e_lt, e_bd, e_grd, e_clamp, e_l0, e_l1, e_l2, e_l3, e_l4, e_l5, e_l6, e_l7, e_l8, e_l9, e_l10, e_l12, e_l13, e_l20, e_l31, e_l32, e_l45, e_l48, e_l50, e_l57, e_l58, e_l59, e_l64, e_l70, e_l100, e_l106, e_l127, e_l138, e_l554, e_l799, e_l804, e_l1000, e_l2000, e_l2412, e_l100000, e_m1, nI_add, ni_mul, ni_sub, nI_clamp, e_ltT, e_ltF, e_leT, e_leF, e_eqT, e_eqF, e_mE, e_Em, e_mlt, e_mle, e_ltm, e_lem, e_gz, e_gt, e_bs, ite_self, e_el, e_er, tq_get, tq_set, tq_inc, tb_get_neg, tb_set_neg, and_true, true_and, and_false, false_and, not_false_eq_true, not_true_eq_false] <;> rfl
      · obtain ⟨M, rfl⟩ : ∃ N', M = N' + 1 := ⟨M - 1, by omega⟩
        rw [qX11_lengthOf_16]
        simp (disch := omega) only [hz, g9, ↓reduceIte, e_lt, e_bd, e_grd, e_clamp, e_l0, e_l1, e_l2, e_l3, e_l4, e_l5, e_l6, e_l7, e_l8, e_l9, e_l10, e_l12, e_l13, e_l20, e_l31, e_l32, e_l45, e_l48, e_l50, e_l57, e_l58, e_l59, e_l64, e_l70, e_l100, e_l106, e_l127, e_l138, e_l554, e_l799, e_l804, e_l1000, e_l2000, e_l2412, e_l100000, e_m1, nI_add, ni_mul, ni_sub, nI_clamp, e_ltT, e_ltF, e_leT, e_leF, e_eqT, e_eqF, e_mE, e_Em, e_mlt, e_mle, e_ltm, e_lem, e_gz, e_gt, e_bs, ite_self, e_el, e_er, tq_get, tq_set, tq_inc, tb_get_neg, tb_set_neg, and_true, true_and, and_false, false_and, not_false_eq_true, not_true_eq_false] <;> rfl
  | succ d ih =>
    intro i c lc lr hi hc hl
    have hfst := m_first (w := (w.1, w.2.1, w.2.2.1, w.2.2.2.1, w.2.2.2.2.1, w.2.2.2.2.2.1, w.2.2.2.2.2.2.1, w.2.2.2.2.2.2.2.1, w.2.2.2.2.2.2.2.2.1, w.2.2.2.2.2.2.2.2.2.1, w.2.2.2.2.2.2.2.2.2.2.1, w.2.2.2.2.2.2.2.2.2.2.2.1, w.2.2.2.2.2.2.2.2.2.2.2.2.1, lr)) (e := i) hN h5 hn hC (by omega)
    by_cases q : y3 i = nI x0
    · have hx : x0 ≤ i := by
        obtain ⟨x, c1, c2, -⟩ := hC i (by omega)
        rw [c2] at q
        have := (nI_eq (by omega) (by omega)).mp q
        omega
      obtain ⟨x, l, b1, b2, b3, e1, e2, e3⟩ := ih (i + 1) (c + 1) (nI i) (nI i) (by omega) (by omega) (Or.inr ⟨by omega, by omega, rfl, i, by omega, rfl⟩)
      refine ⟨x, l, b1, b2, b3, fun M hM => ?_, fun M hM => ?_, fun M hM => ?_⟩
      · obtain ⟨M, rfl⟩ : ∃ N', M = N' + 1 := ⟨M - 1, by omega⟩
        have e1 := e1 M (by omega)
        rw [qX4_lengthFrom_4]
        simp (disch := omega) only [q, e1, ↓reduceIte, e_lt, e_bd, e_grd, e_clamp, e_l0, e_l1, e_l2, e_l3, e_l4, e_l5, e_l6, e_l7, e_l8, e_l9, e_l10, e_l12, e_l13, e_l20, e_l31, e_l32, e_l45, e_l48, e_l50, e_l57, e_l58, e_l59, e_l64, e_l70, e_l100, e_l106, e_l127, e_l138, e_l554, e_l799, e_l804, e_l1000, e_l2000, e_l2412, e_l100000, e_m1, nI_add, ni_mul, ni_sub, nI_clamp, e_ltT, e_ltF, e_leT, e_leF, e_eqT, e_eqF, e_mE, e_Em, e_mlt, e_mle, e_ltm, e_lem, e_gz, e_gt, e_bs, ite_self, e_el, e_er, tq_get, tq_set, tq_inc, tb_get_neg, tb_set_neg, and_true, true_and, and_false, false_and, not_false_eq_true, not_true_eq_false] <;> rfl
      · obtain ⟨M, rfl⟩ : ∃ N', M = N' + 1 := ⟨M - 1, by omega⟩
        have e2 := e2 M (by omega)
        rw [qX4_lastFrom_4]
        simp (disch := omega) only [q, e2, ↓reduceIte, e_lt, e_bd, e_grd, e_clamp, e_l0, e_l1, e_l2, e_l3, e_l4, e_l5, e_l6, e_l7, e_l8, e_l9, e_l10, e_l12, e_l13, e_l20, e_l31, e_l32, e_l45, e_l48, e_l50, e_l57, e_l58, e_l59, e_l64, e_l70, e_l100, e_l106, e_l127, e_l138, e_l554, e_l799, e_l804, e_l1000, e_l2000, e_l2412, e_l100000, e_m1, nI_add, ni_mul, ni_sub, nI_clamp, e_ltT, e_ltF, e_leT, e_leF, e_eqT, e_eqF, e_mE, e_Em, e_mlt, e_mle, e_ltm, e_lem, e_gz, e_gt, e_bs, ite_self, e_el, e_er, tq_get, tq_set, tq_inc, tb_get_neg, tb_set_neg, and_true, true_and, and_false, false_and, not_false_eq_true, not_true_eq_false] <;> rfl
      · obtain ⟨M, rfl⟩ : ∃ N', M = N' + 1 := ⟨M - 1, by omega⟩
        have e3 := e3 M (by omega)
        rw [qX11_lengthOf_16]
        rw [q] at hfst
        simp (disch := omega) only [hz, g9, hfst, e3, ↓reduceIte, e_lt, e_bd, e_grd, e_clamp, e_l0, e_l1, e_l2, e_l3, e_l4, e_l5, e_l6, e_l7, e_l8, e_l9, e_l10, e_l12, e_l13, e_l20, e_l31, e_l32, e_l45, e_l48, e_l50, e_l57, e_l58, e_l59, e_l64, e_l70, e_l100, e_l106, e_l127, e_l138, e_l554, e_l799, e_l804, e_l1000, e_l2000, e_l2412, e_l100000, e_m1, nI_add, ni_mul, ni_sub, nI_clamp, e_ltT, e_ltF, e_leT, e_leF, e_eqT, e_eqF, e_mE, e_Em, e_mlt, e_mle, e_ltm, e_lem, e_gz, e_gt, e_bs, ite_self, e_el, e_er, tq_get, tq_set, tq_inc, tb_get_neg, tb_set_neg, and_true, true_and, and_false, false_and, not_false_eq_true, not_true_eq_false] <;> rfl
    · have hl' : (i + 1 ≤ x0 ∧ lc = m1 ∧ lr = nI x0) ∨ (x0 < i + 1 ∧ 1 ≤ c ∧ lc = lr ∧ ∃ z, z < n ∧ lc = nI z) := by
        rcases hl with ⟨q1, q2⟩ | ⟨q1, q2⟩
        · refine Or.inl ⟨?_, q2⟩
          rcases Nat.lt_or_ge i x0 with z | z
          · exact z
          · have : i = x0 := by omega
            subst this
            exact absurd hf0 q
        · exact Or.inr ⟨by omega, q2⟩
      obtain ⟨x, l, b1, b2, b3, e1, e2, e3⟩ := ih (i + 1) c lc lr (by omega) (by omega) hl'
      refine ⟨x, l, b1, b2, b3, fun M hM => ?_, fun M hM => ?_, fun M hM => ?_⟩
      · obtain ⟨M, rfl⟩ : ∃ N', M = N' + 1 := ⟨M - 1, by omega⟩
        have e1 := e1 M (by omega)
        rw [qX4_lengthFrom_4]
        simp (disch := omega) only [q, e_a0, e1, Nat.add_zero, ↓reduceIte, e_lt, e_bd, e_grd, e_clamp, e_l0, e_l1, e_l2, e_l3, e_l4, e_l5, e_l6, e_l7, e_l8, e_l9, e_l10, e_l12, e_l13, e_l20, e_l31, e_l32, e_l45, e_l48, e_l50, e_l57, e_l58, e_l59, e_l64, e_l70, e_l100, e_l106, e_l127, e_l138, e_l554, e_l799, e_l804, e_l1000, e_l2000, e_l2412, e_l100000, e_m1, nI_add, ni_mul, ni_sub, nI_clamp, e_ltT, e_ltF, e_leT, e_leF, e_eqT, e_eqF, e_mE, e_Em, e_mlt, e_mle, e_ltm, e_lem, e_gz, e_gt, e_bs, ite_self, e_el, e_er, tq_get, tq_set, tq_inc, tb_get_neg, tb_set_neg, and_true, true_and, and_false, false_and, not_false_eq_true, not_true_eq_false] <;> rfl
      · obtain ⟨M, rfl⟩ : ∃ N', M = N' + 1 := ⟨M - 1, by omega⟩
        have e2 := e2 M (by omega)
        rw [qX4_lastFrom_4]
        simp (disch := omega) only [q, e2, ↓reduceIte, e_lt, e_bd, e_grd, e_clamp, e_l0, e_l1, e_l2, e_l3, e_l4, e_l5, e_l6, e_l7, e_l8, e_l9, e_l10, e_l12, e_l13, e_l20, e_l31, e_l32, e_l45, e_l48, e_l50, e_l57, e_l58, e_l59, e_l64, e_l70, e_l100, e_l106, e_l127, e_l138, e_l554, e_l799, e_l804, e_l1000, e_l2000, e_l2412, e_l100000, e_m1, nI_add, ni_mul, ni_sub, nI_clamp, e_ltT, e_ltF, e_leT, e_leF, e_eqT, e_eqF, e_mE, e_Em, e_mlt, e_mle, e_ltm, e_lem, e_gz, e_gt, e_bs, ite_self, e_el, e_er, tq_get, tq_set, tq_inc, tb_get_neg, tb_set_neg, and_true, true_and, and_false, false_and, not_false_eq_true, not_true_eq_false] <;> rfl
      · obtain ⟨M, rfl⟩ : ∃ N', M = N' + 1 := ⟨M - 1, by omega⟩
        have e3 := e3 M (by omega)
        rw [qX11_lengthOf_16]
        simp (disch := omega) only [hz, g9, hfst, q, e_a0, e3, Nat.add_zero, ↓reduceIte, e_lt, e_bd, e_grd, e_clamp, e_l0, e_l1, e_l2, e_l3, e_l4, e_l5, e_l6, e_l7, e_l8, e_l9, e_l10, e_l12, e_l13, e_l20, e_l31, e_l32, e_l45, e_l48, e_l50, e_l57, e_l58, e_l59, e_l64, e_l70, e_l100, e_l106, e_l127, e_l138, e_l554, e_l799, e_l804, e_l1000, e_l2000, e_l2412, e_l100000, e_m1, nI_add, ni_mul, ni_sub, nI_clamp, e_ltT, e_ltF, e_leT, e_leF, e_eqT, e_eqF, e_mE, e_Em, e_mlt, e_mle, e_ltm, e_lem, e_gz, e_gt, e_bs, ite_self, e_el, e_er, tq_get, tq_set, tq_inc, tb_get_neg, tb_set_neg, and_true, true_and, and_false, false_and, not_false_eq_true, not_true_eq_false] <;> rfl
end QV
def chv (v : V10) (y1 y2 y3 : Nat → Int32) (n : Nat) : V10 := (v.1, v.2.1, v.2.2.1, v.2.2.2.1, ((50, y1), (50, y2), (50, y3), nI n), v.2.2.2.2.2)
def chw (w : V11) (F : Nat → Int32) (la : Int32) : V11 := (w.1, w.2.1, w.2.2.1, nI 0, w.2.2.2.2.1, w.2.2.2.2.2.1, w.2.2.2.2.2.2.1, w.2.2.2.2.2.2.2.1, w.2.2.2.2.2.2.2.2.1, w.2.2.2.2.2.2.2.2.2.1, w.2.2.2.2.2.2.2.2.2.2.1, w.2.2.2.2.2.2.2.2.2.2.2.1, (50, F), la)
theorem RR.ch {cn : Nat} {v : V10} {w : V11} (h : RR cn v w) (y1 y2 y3 F : Nat → Int32) (n : Nat) (la : Int32) : RR (cn + 1) (chv v y1 y2 y3 n) (chw w F la) := by
  obtain ⟨⟨z1, z2, z3, z4, z5, z6, z7, z8, z9, z10, z11⟩, h2, h3, m, h4, h5⟩ := h
  exact ⟨⟨z1, z2, z3, z4, rfl, z6, z7, rfl, rfl, rfl, z11⟩, h2, h3.mono (by omega), m, h4, h5.mono (by omega)⟩
/-- all that a question about chains needs -/
theorem ch_all {cn N : Nat} {v : V10} {w : V11} (h : RR cn v w) (hcn : cn < 512) (hN : 5000 ≤ N) : ∃ (n : Nat) (y1 y2 y3 F : Nat → Int32), n ≤ 50 ∧ v.2.2.1.2.2.2.1.2.2.2 = nI n ∧ w.1.2 9 = nI n ∧ sX10_findChains N v = some (chv v y1 y2 y3 n) ∧ sX11_laysChains N (setTh w (nI 0)) = some (chw w F w.2.2.2.2.2.2.2.2.2.2.2.2.2) ∧ (∀ k, k < n → y1 k = F k) ∧ CHN n F y3 ∧ (∀ e j, e < n → j < 5 → sX2_read v.2.2.1.2.2.2.1 (nI e) (nI j) = some (w.1.2 (554 + 5 * e + j))) := by
  obtain ⟨⟨z1, z2, z3, z4, z5, z6, z7, z8, z9, z10, z11⟩, -, ⟨-, -, t, t1, t2, -, hE, fl, th, gp, tl, -, -, -, -, -, n6, -, -, n9, n10⟩, -⟩ := id h
  obtain ⟨n, y1, y2, y3, F, a1, a2, a3, a4, a5, a6, a7, a8⟩ := fd_both (N := N) (t := t) (v := v) (w := setTh w (nI 0)) (gp := nI gp) (tl := nI tl) hN z1 z5 n9 n10 (by rw [n6]) (by rw [n6]) hE (by omega) z8 z9 z10
  exact ⟨n, y1, y2, y3, F, a1, a2, a3, a4, a5, a6, a7, a8⟩
theorem ev_now {N n e j : Nat} {v : V10} {w : V11} {y1 y2 y3 F : Nat → Int32} {la : Int32} (hN : 5000 ≤ N) (hz : w.1.1 = 804) (hn : n ≤ 50) (h1 : ∀ k, k < n → y1 k = F k) (hC : CHN n F y3) (hr : ∀ e j, e < n → j < 5 → sX2_read v.2.2.1.2.2.2.1 (nI e) (nI j) = some (w.1.2 (554 + 5 * e + j))) (he : e < n) (hj : j < 7) : ∃ x, sX10_describeEvent (chv v y1 y2 y3 n) (nI e) (nI j) = some x ∧ sX11_eventNow N (chw w F la) (nI e) (nI j) = some x := by
  by_cases q5 : j = 5
  · subst q5
    refine ⟨y1 e, ?_, ?_⟩
    · have := c_pred (y1 := y1) (y2 := y2) (y3 := y3) hn he
      simp (disch := omega) only [sX10_describeEvent, chv, this, ↓reduceIte, e_lt, e_bd, e_grd, e_clamp, e_l0, e_l1, e_l2, e_l3, e_l4, e_l5, e_l6, e_l7, e_l8, e_l9, e_l10, e_l12, e_l13, e_l20, e_l31, e_l32, e_l45, e_l48, e_l50, e_l57, e_l58, e_l59, e_l64, e_l70, e_l100, e_l106, e_l127, e_l138, e_l554, e_l799, e_l804, e_l1000, e_l2000, e_l2412, e_l100000, e_m1, nI_add, ni_mul, ni_sub, nI_clamp, e_ltT, e_ltF, e_leT, e_leF, e_eqT, e_eqF, e_mE, e_Em, e_mlt, e_mle, e_ltm, e_lem, e_gz, e_gt, e_bs, ite_self, e_el, e_er, tq_get, tq_set, tq_inc, tb_get_neg, tb_set_neg, and_true, true_and, and_false, false_and, not_false_eq_true, not_true_eq_false] <;> rfl
    · have := h1 e he
      simp (disch := omega) only [sX11_eventNow, chw, this, ↓reduceIte, e_lt, e_bd, e_grd, e_clamp, e_l0, e_l1, e_l2, e_l3, e_l4, e_l5, e_l6, e_l7, e_l8, e_l9, e_l10, e_l12, e_l13, e_l20, e_l31, e_l32, e_l45, e_l48, e_l50, e_l57, e_l58, e_l59, e_l64, e_l70, e_l100, e_l106, e_l127, e_l138, e_l554, e_l799, e_l804, e_l1000, e_l2000, e_l2412, e_l100000, e_m1, nI_add, ni_mul, ni_sub, nI_clamp, e_ltT, e_ltF, e_leT, e_leF, e_eqT, e_eqF, e_mE, e_Em, e_mlt, e_mle, e_ltm, e_lem, e_gz, e_gt, e_bs, ite_self, e_el, e_er, tq_get, tq_set, tq_inc, tb_get_neg, tb_set_neg, and_true, true_and, and_false, false_and, not_false_eq_true, not_true_eq_false] <;> rfl
  · by_cases q6 : j = 6
    · subst q6
      refine ⟨y3 e, ?_, ?_⟩
      · have := c_first (y1 := y1) (y2 := y2) (y3 := y3) hn he
        simp (disch := omega) only [sX10_describeEvent, chv, this, ↓reduceIte, e_lt, e_bd, e_grd, e_clamp, e_l0, e_l1, e_l2, e_l3, e_l4, e_l5, e_l6, e_l7, e_l8, e_l9, e_l10, e_l12, e_l13, e_l20, e_l31, e_l32, e_l45, e_l48, e_l50, e_l57, e_l58, e_l59, e_l64, e_l70, e_l100, e_l106, e_l127, e_l138, e_l554, e_l799, e_l804, e_l1000, e_l2000, e_l2412, e_l100000, e_m1, nI_add, ni_mul, ni_sub, nI_clamp, e_ltT, e_ltF, e_leT, e_leF, e_eqT, e_eqF, e_mE, e_Em, e_mlt, e_mle, e_ltm, e_lem, e_gz, e_gt, e_bs, ite_self, e_el, e_er, tq_get, tq_set, tq_inc, tb_get_neg, tb_set_neg, and_true, true_and, and_false, false_and, not_false_eq_true, not_true_eq_false] <;> rfl
      · have := m_first (w := chw w F la) (N := N) hN rfl hn hC he
        simp (disch := omega) only [sX11_eventNow, this, ↓reduceIte, e_lt, e_bd, e_grd, e_clamp, e_l0, e_l1, e_l2, e_l3, e_l4, e_l5, e_l6, e_l7, e_l8, e_l9, e_l10, e_l12, e_l13, e_l20, e_l31, e_l32, e_l45, e_l48, e_l50, e_l57, e_l58, e_l59, e_l64, e_l70, e_l100, e_l106, e_l127, e_l138, e_l554, e_l799, e_l804, e_l1000, e_l2000, e_l2412, e_l100000, e_m1, nI_add, ni_mul, ni_sub, nI_clamp, e_ltT, e_ltF, e_leT, e_leF, e_eqT, e_eqF, e_mE, e_Em, e_mlt, e_mle, e_ltm, e_lem, e_gz, e_gt, e_bs, ite_self, e_el, e_er, tq_get, tq_set, tq_inc, tb_get_neg, tb_set_neg, and_true, true_and, and_false, false_and, not_false_eq_true, not_true_eq_false] <;> rfl
    · refine ⟨w.1.2 (554 + 5 * e + j), ?_, ?_⟩
      · have := hr e j he (by omega)
        simp (disch := omega) only [sX10_describeEvent, chv, this, ↓reduceIte, e_lt, e_bd, e_grd, e_clamp, e_l0, e_l1, e_l2, e_l3, e_l4, e_l5, e_l6, e_l7, e_l8, e_l9, e_l10, e_l12, e_l13, e_l20, e_l31, e_l32, e_l45, e_l48, e_l50, e_l57, e_l58, e_l59, e_l64, e_l70, e_l100, e_l106, e_l127, e_l138, e_l554, e_l799, e_l804, e_l1000, e_l2000, e_l2412, e_l100000, e_m1, nI_add, ni_mul, ni_sub, nI_clamp, e_ltT, e_ltF, e_leT, e_leF, e_eqT, e_eqF, e_mE, e_Em, e_mlt, e_mle, e_ltm, e_lem, e_gz, e_gt, e_bs, ite_self, e_el, e_er, tq_get, tq_set, tq_inc, tb_get_neg, tb_set_neg, and_true, true_and, and_false, false_and, not_false_eq_true, not_true_eq_false] <;> rfl
      · simp (disch := omega) only [sX11_eventNow, chw, sX11_eventAt, hz, ↓reduceIte, e_lt, e_bd, e_grd, e_clamp, e_l0, e_l1, e_l2, e_l3, e_l4, e_l5, e_l6, e_l7, e_l8, e_l9, e_l10, e_l12, e_l13, e_l20, e_l31, e_l32, e_l45, e_l48, e_l50, e_l57, e_l58, e_l59, e_l64, e_l70, e_l100, e_l106, e_l127, e_l138, e_l554, e_l799, e_l804, e_l1000, e_l2000, e_l2412, e_l100000, e_m1, nI_add, ni_mul, ni_sub, nI_clamp, e_ltT, e_ltF, e_leT, e_leF, e_eqT, e_eqF, e_mE, e_Em, e_mlt, e_mle, e_ltm, e_lem, e_gz, e_gt, e_bs, ite_self, e_el, e_er, tq_get, tq_set, tq_inc, tb_get_neg, tb_set_neg, and_true, true_and, and_false, false_and, not_false_eq_true, not_true_eq_false] <;> rfl
theorem pu_event {N : Nat} (hN : 5000 ≤ N) : PU_event RR N := by
  intro cn v w p1 p2 hcn h
  have hz : w.1.1 = 804 := h.1.1
  obtain ⟨n, y1, y2, y3, F, hn, e1, e2, a1, a2, a3, a4, a5⟩ := ch_all h hcn hN
  have hie := m_isEv (w := w) hz e2 (by omega)
  by_cases hA : nI 0 ≤ p1 ∧ p1 < nI n
  case neg =>
    refine Or.inr (Or.inl ⟨(nI 0, setTh w (nI 1)), ?_, ?_, rfl, h.th (nI 1)⟩)
    · simp (disch := omega) only [sX10_event, c_idx, e1, hA, ↓reduceIte, e_lt, e_bd, e_grd, e_clamp, e_l0, e_l1, e_l2, e_l3, e_l4, e_l5, e_l6, e_l7, e_l8, e_l9, e_l10, e_l12, e_l13, e_l20, e_l31, e_l32, e_l45, e_l48, e_l50, e_l57, e_l58, e_l59, e_l64, e_l70, e_l100, e_l106, e_l127, e_l138, e_l554, e_l799, e_l804, e_l1000, e_l2000, e_l2412, e_l100000, e_m1, nI_add, ni_mul, ni_sub, nI_clamp, e_ltT, e_ltF, e_leT, e_leF, e_eqT, e_eqF, e_mE, e_Em, e_mlt, e_mle, e_ltm, e_lem, e_gz, e_gt, e_bs, ite_self, e_el, e_er, tq_get, tq_set, tq_inc, tb_get_neg, tb_set_neg, and_true, true_and, and_false, false_and, not_false_eq_true, not_true_eq_false] <;> rfl
    · simp (disch := omega) only [sX11_event, hie, m_in_0_6, hA, m_go0, ↓reduceIte, e_lt, e_bd, e_grd, e_clamp, e_l0, e_l1, e_l2, e_l3, e_l4, e_l5, e_l6, e_l7, e_l8, e_l9, e_l10, e_l12, e_l13, e_l20, e_l31, e_l32, e_l45, e_l48, e_l50, e_l57, e_l58, e_l59, e_l64, e_l70, e_l100, e_l106, e_l127, e_l138, e_l554, e_l799, e_l804, e_l1000, e_l2000, e_l2412, e_l100000, e_m1, nI_add, ni_mul, ni_sub, nI_clamp, e_ltT, e_ltF, e_leT, e_leF, e_eqT, e_eqF, e_mE, e_Em, e_mlt, e_mle, e_ltm, e_lem, e_gz, e_gt, e_bs, ite_self, e_el, e_er, tq_get, tq_set, tq_inc, tb_get_neg, tb_set_neg, and_true, true_and, and_false, false_and, not_false_eq_true, not_true_eq_false] <;> rfl
  obtain ⟨e, he, rfl⟩ := rg_lt (by omega) hA.1 hA.2
  by_cases hB : nI 0 ≤ p2 ∧ p2 ≤ nI 6
  case neg =>
    refine Or.inr (Or.inr ⟨(nI 0, setTh w (nI 2)), ?_, ?_, rfl, h.th (nI 2)⟩)
    · simp (disch := omega) only [sX10_event, c_idx, e1, c_arg, hB, ↓reduceIte, e_lt, e_bd, e_grd, e_clamp, e_l0, e_l1, e_l2, e_l3, e_l4, e_l5, e_l6, e_l7, e_l8, e_l9, e_l10, e_l12, e_l13, e_l20, e_l31, e_l32, e_l45, e_l48, e_l50, e_l57, e_l58, e_l59, e_l64, e_l70, e_l100, e_l106, e_l127, e_l138, e_l554, e_l799, e_l804, e_l1000, e_l2000, e_l2412, e_l100000, e_m1, nI_add, ni_mul, ni_sub, nI_clamp, e_ltT, e_ltF, e_leT, e_leF, e_eqT, e_eqF, e_mE, e_Em, e_mlt, e_mle, e_ltm, e_lem, e_gz, e_gt, e_bs, ite_self, e_el, e_er, tq_get, tq_set, tq_inc, tb_get_neg, tb_set_neg, and_true, true_and, and_false, false_and, not_false_eq_true, not_true_eq_false] <;> rfl
    · simp (disch := omega) only [sX11_event, hie, m_in_0_6, hB, m_go10, ↓reduceIte, e_lt, e_bd, e_grd, e_clamp, e_l0, e_l1, e_l2, e_l3, e_l4, e_l5, e_l6, e_l7, e_l8, e_l9, e_l10, e_l12, e_l13, e_l20, e_l31, e_l32, e_l45, e_l48, e_l50, e_l57, e_l58, e_l59, e_l64, e_l70, e_l100, e_l106, e_l127, e_l138, e_l554, e_l799, e_l804, e_l1000, e_l2000, e_l2412, e_l100000, e_m1, nI_add, ni_mul, ni_sub, nI_clamp, e_ltT, e_ltF, e_leT, e_leF, e_eqT, e_eqF, e_mE, e_Em, e_mlt, e_mle, e_ltm, e_lem, e_gz, e_gt, e_bs, ite_self, e_el, e_er, tq_get, tq_set, tq_inc, tb_get_neg, tb_set_neg, and_true, true_and, and_false, false_and, not_false_eq_true, not_true_eq_false] <;> rfl
  obtain ⟨j, -, hj, rfl⟩ := rg_of (by decide) (by decide) hB.1 hB.2
  obtain ⟨x, b1, b2⟩ := ev_now (N := N) (v := v) (w := w) (y2 := y2) (e := e) (j := j) (la := w.2.2.2.2.2.2.2.2.2.2.2.2.2) hN hz hn a3 a4 a5 he (by omega)
  refine Or.inl ⟨(x, chv v y1 y2 y3 n), (x, chw w F w.2.2.2.2.2.2.2.2.2.2.2.2.2), ?_, ?_, rfl, rfl, h.ch _ _ _ _ _ _⟩
  · simp (disch := omega) only [sX10_event, c_idx, e1, c_arg, a1, b1, ↓reduceIte, e_lt, e_bd, e_grd, e_clamp, e_l0, e_l1, e_l2, e_l3, e_l4, e_l5, e_l6, e_l7, e_l8, e_l9, e_l10, e_l12, e_l13, e_l20, e_l31, e_l32, e_l45, e_l48, e_l50, e_l57, e_l58, e_l59, e_l64, e_l70, e_l100, e_l106, e_l127, e_l138, e_l554, e_l799, e_l804, e_l1000, e_l2000, e_l2412, e_l100000, e_m1, nI_add, ni_mul, ni_sub, nI_clamp, e_ltT, e_ltF, e_leT, e_leF, e_eqT, e_eqF, e_mE, e_Em, e_mlt, e_mle, e_ltm, e_lem, e_gz, e_gt, e_bs, ite_self, e_el, e_er, tq_get, tq_set, tq_inc, tb_get_neg, tb_set_neg, and_true, true_and, and_false, false_and, not_false_eq_true, not_true_eq_false] <;> rfl
  · simp (disch := omega) only [sX11_event, hie, m_in_0_6, m_go11, a2, b2, ↓reduceIte, e_lt, e_bd, e_grd, e_clamp, e_l0, e_l1, e_l2, e_l3, e_l4, e_l5, e_l6, e_l7, e_l8, e_l9, e_l10, e_l12, e_l13, e_l20, e_l31, e_l32, e_l45, e_l48, e_l50, e_l57, e_l58, e_l59, e_l64, e_l70, e_l100, e_l106, e_l127, e_l138, e_l554, e_l799, e_l804, e_l1000, e_l2000, e_l2412, e_l100000, e_m1, nI_add, ni_mul, ni_sub, nI_clamp, e_ltT, e_ltF, e_leT, e_leF, e_eqT, e_eqF, e_mE, e_Em, e_mlt, e_mle, e_ltm, e_lem, e_gz, e_gt, e_bs, ite_self, e_el, e_er, tq_get, tq_set, tq_inc, tb_get_neg, tb_set_neg, and_true, true_and, and_false, false_and, not_false_eq_true, not_true_eq_false] <;> rfl
theorem pu_chains {N : Nat} (hN : 5000 ≤ N) : PU_chains RR N := by
  intro cn v w hcn h
  have hz : w.1.1 = 804 := h.1.1
  obtain ⟨n, y1, y2, y3, F, hn, e1, e2, a1, a2, a3, a4, a5⟩ := ch_all h hcn hN
  obtain ⟨x, b1, b2⟩ := nb_loop (y1 := y1) (y2 := y2) (w := chw w F w.2.2.2.2.2.2.2.2.2.2.2.2.2) hn hz e2 rfl a4 n 0 (nI 0) (by omega)
  have b1 := b1 N (by omega)
  have b2 := b2 N (by omega)
  refine ⟨(x, chv v y1 y2 y3 n), (x, chw w F w.2.2.2.2.2.2.2.2.2.2.2.2.2), ?_, ?_, rfl, h.ch _ _ _ _ _ _⟩
  · have hx : sX4_number N (chv v y1 y2 y3 n).2.2.2.2.1 = some x := by
      simp (disch := omega) only [chv, sX4_number, b1, ↓reduceIte, e_lt, e_bd, e_grd, e_clamp, e_l0, e_l1, e_l2, e_l3, e_l4, e_l5, e_l6, e_l7, e_l8, e_l9, e_l10, e_l12, e_l13, e_l20, e_l31, e_l32, e_l45, e_l48, e_l50, e_l57, e_l58, e_l59, e_l64, e_l70, e_l100, e_l106, e_l127, e_l138, e_l554, e_l799, e_l804, e_l1000, e_l2000, e_l2412, e_l100000, e_m1, nI_add, ni_mul, ni_sub, nI_clamp, e_ltT, e_ltF, e_leT, e_leF, e_eqT, e_eqF, e_mE, e_Em, e_mlt, e_mle, e_ltm, e_lem, e_gz, e_gt, e_bs, ite_self, e_el, e_er, tq_get, tq_set, tq_inc, tb_get_neg, tb_set_neg, and_true, true_and, and_false, false_and, not_false_eq_true, not_true_eq_false] <;> rfl
    simp (disch := omega) only [sX10_chains, a1, hx, ↓reduceIte, e_lt, e_bd, e_grd, e_clamp, e_l0, e_l1, e_l2, e_l3, e_l4, e_l5, e_l6, e_l7, e_l8, e_l9, e_l10, e_l12, e_l13, e_l20, e_l31, e_l32, e_l45, e_l48, e_l50, e_l57, e_l58, e_l59, e_l64, e_l70, e_l100, e_l106, e_l127, e_l138, e_l554, e_l799, e_l804, e_l1000, e_l2000, e_l2412, e_l100000, e_m1, nI_add, ni_mul, ni_sub, nI_clamp, e_ltT, e_ltF, e_leT, e_leF, e_eqT, e_eqF, e_mE, e_Em, e_mlt, e_mle, e_ltm, e_lem, e_gz, e_gt, e_bs, ite_self, e_el, e_er, tq_get, tq_set, tq_inc, tb_get_neg, tb_set_neg, and_true, true_and, and_false, false_and, not_false_eq_true, not_true_eq_false] <;> rfl
  · have a2 : sX11_laysChains N (w.1, w.2.1, w.2.2.1, nI 0, w.2.2.2.2.1, w.2.2.2.2.2.1, w.2.2.2.2.2.2.1, w.2.2.2.2.2.2.2.1, w.2.2.2.2.2.2.2.2.1, w.2.2.2.2.2.2.2.2.2.1, w.2.2.2.2.2.2.2.2.2.2.1, w.2.2.2.2.2.2.2.2.2.2.2.1, w.2.2.2.2.2.2.2.2.2.2.2.2.1, w.2.2.2.2.2.2.2.2.2.2.2.2.2) = some (chw w F w.2.2.2.2.2.2.2.2.2.2.2.2.2) := a2
    simp (disch := omega) only [sX11_chains, a2, b2, ↓reduceIte, e_lt, e_bd, e_grd, e_clamp, e_l0, e_l1, e_l2, e_l3, e_l4, e_l5, e_l6, e_l7, e_l8, e_l9, e_l10, e_l12, e_l13, e_l20, e_l31, e_l32, e_l45, e_l48, e_l50, e_l57, e_l58, e_l59, e_l64, e_l70, e_l100, e_l106, e_l127, e_l138, e_l554, e_l799, e_l804, e_l1000, e_l2000, e_l2412, e_l100000, e_m1, nI_add, ni_mul, ni_sub, nI_clamp, e_ltT, e_ltF, e_leT, e_leF, e_eqT, e_eqF, e_mE, e_Em, e_mlt, e_mle, e_ltm, e_lem, e_gz, e_gt, e_bs, ite_self, e_el, e_er, tq_get, tq_set, tq_inc, tb_get_neg, tb_set_neg, and_true, true_and, and_false, false_and, not_false_eq_true, not_true_eq_false] <;> rfl
/-- length and last, on both sides -/
theorem ln_all {N n e : Nat} {w : V11} {y1 y2 y3 F : Nat → Int32} (hN : 5000 ≤ N) (hz : w.1.1 = 804) (g9 : w.1.2 9 = nI n) (hn : n ≤ 50) (hC : CHN n F y3) (he : e < n) (la : Int32) : ∃ x0 x l : Nat, x0 < n ∧ 1 ≤ x ∧ x ≤ n ∧ l < n ∧ y3 e = nI x0 ∧ y3 x0 = nI x0 ∧ sX4_lengthFrom N ((50, y1), (50, y2), (50, y3), nI n) (nI x0) = some (nI x) ∧ sX4_lastFrom N ((50, y1), (50, y2), (50, y3), nI n) (nI x0) = some (nI l) ∧ sX11_lengthOf N (chw w F la) (nI e) = some (nI x, chw w F (nI l)) := by
  obtain ⟨x0, c1, c2, c3⟩ := hC.idem hn e he
  obtain ⟨x, l, b1, b2, b3, d1, d2, d3⟩ := ln_loop (N := N) (y1 := y1) (y2 := y2) (y3 := y3) (w := chw w F la) hN hn hz g9 rfl hC c1 c3 n 0 0 m1 (nI x0) (by omega) (by omega) (Or.inl ⟨by omega, rfl, rfl⟩)
  have d1 := d1 N (by omega)
  have d2 := d2 N (by omega)
  have d3 := d3 N (by omega)
  have hf := m_first (w := chw w F la) (N := N) hN rfl hn hC he
  rw [c2] at hf
  refine ⟨x0, x, l, c1, b1, b2, b3, c2, c3, ?_, ?_, ?_⟩
  · simp (disch := omega) only [sX4_lengthFrom, d1, ↓reduceIte, e_lt, e_bd, e_grd, e_clamp, e_l0, e_l1, e_l2, e_l3, e_l4, e_l5, e_l6, e_l7, e_l8, e_l9, e_l10, e_l12, e_l13, e_l20, e_l31, e_l32, e_l45, e_l48, e_l50, e_l57, e_l58, e_l59, e_l64, e_l70, e_l100, e_l106, e_l127, e_l138, e_l554, e_l799, e_l804, e_l1000, e_l2000, e_l2412, e_l100000, e_m1, nI_add, ni_mul, ni_sub, nI_clamp, e_ltT, e_ltF, e_leT, e_leF, e_eqT, e_eqF, e_mE, e_Em, e_mlt, e_mle, e_ltm, e_lem, e_gz, e_gt, e_bs, ite_self, e_el, e_er, tq_get, tq_set, tq_inc, tb_get_neg, tb_set_neg, and_true, true_and, and_false, false_and, not_false_eq_true, not_true_eq_false] <;> rfl
  · simp (disch := omega) only [sX4_lastFrom, d2, ↓reduceIte, e_lt, e_bd, e_grd, e_clamp, e_l0, e_l1, e_l2, e_l3, e_l4, e_l5, e_l6, e_l7, e_l8, e_l9, e_l10, e_l12, e_l13, e_l20, e_l31, e_l32, e_l45, e_l48, e_l50, e_l57, e_l58, e_l59, e_l64, e_l70, e_l100, e_l106, e_l127, e_l138, e_l554, e_l799, e_l804, e_l1000, e_l2000, e_l2412, e_l100000, e_m1, nI_add, ni_mul, ni_sub, nI_clamp, e_ltT, e_ltF, e_leT, e_leF, e_eqT, e_eqF, e_mE, e_Em, e_mlt, e_mle, e_ltm, e_lem, e_gz, e_gt, e_bs, ite_self, e_el, e_er, tq_get, tq_set, tq_inc, tb_get_neg, tb_set_neg, and_true, true_and, and_false, false_and, not_false_eq_true, not_true_eq_false] <;> rfl
  · simp (disch := omega) only [sX11_lengthOf, hf, d3, ↓reduceIte, e_lt, e_bd, e_grd, e_clamp, e_l0, e_l1, e_l2, e_l3, e_l4, e_l5, e_l6, e_l7, e_l8, e_l9, e_l10, e_l12, e_l13, e_l20, e_l31, e_l32, e_l45, e_l48, e_l50, e_l57, e_l58, e_l59, e_l64, e_l70, e_l100, e_l106, e_l127, e_l138, e_l554, e_l799, e_l804, e_l1000, e_l2000, e_l2412, e_l100000, e_m1, nI_add, ni_mul, ni_sub, nI_clamp, e_ltT, e_ltF, e_leT, e_leF, e_eqT, e_eqF, e_mE, e_Em, e_mlt, e_mle, e_ltm, e_lem, e_gz, e_gt, e_bs, ite_self, e_el, e_er, tq_get, tq_set, tq_inc, tb_get_neg, tb_set_neg, and_true, true_and, and_false, false_and, not_false_eq_true, not_true_eq_false] <;> rfl
theorem pu_chainLength {N : Nat} (hN : 5000 ≤ N) : PU_chainLength RR N := by
  intro cn v w p1 hcn h
  have hz : w.1.1 = 804 := h.1.1
  obtain ⟨n, y1, y2, y3, F, hn, e1, e2, a1, a2, a3, a4, a5⟩ := ch_all h hcn hN
  have hie := m_isEv (w := w) hz e2 (by omega)
  by_cases hA : nI 0 ≤ p1 ∧ p1 < nI n
  case neg =>
    refine Or.inr ⟨(nI 0, setTh w (nI 1)), ?_, ?_, rfl, h.th (nI 1)⟩
    · simp (disch := omega) only [sX10_chainLength, c_idx, e1, hA, ↓reduceIte, e_lt, e_bd, e_grd, e_clamp, e_l0, e_l1, e_l2, e_l3, e_l4, e_l5, e_l6, e_l7, e_l8, e_l9, e_l10, e_l12, e_l13, e_l20, e_l31, e_l32, e_l45, e_l48, e_l50, e_l57, e_l58, e_l59, e_l64, e_l70, e_l100, e_l106, e_l127, e_l138, e_l554, e_l799, e_l804, e_l1000, e_l2000, e_l2412, e_l100000, e_m1, nI_add, ni_mul, ni_sub, nI_clamp, e_ltT, e_ltF, e_leT, e_leF, e_eqT, e_eqF, e_mE, e_Em, e_mlt, e_mle, e_ltm, e_lem, e_gz, e_gt, e_bs, ite_self, e_el, e_er, tq_get, tq_set, tq_inc, tb_get_neg, tb_set_neg, and_true, true_and, and_false, false_and, not_false_eq_true, not_true_eq_false] <;> rfl
    · simp (disch := omega) only [sX11_chainLength, hie, hA, m_go0, ↓reduceIte, e_lt, e_bd, e_grd, e_clamp, e_l0, e_l1, e_l2, e_l3, e_l4, e_l5, e_l6, e_l7, e_l8, e_l9, e_l10, e_l12, e_l13, e_l20, e_l31, e_l32, e_l45, e_l48, e_l50, e_l57, e_l58, e_l59, e_l64, e_l70, e_l100, e_l106, e_l127, e_l138, e_l554, e_l799, e_l804, e_l1000, e_l2000, e_l2412, e_l100000, e_m1, nI_add, ni_mul, ni_sub, nI_clamp, e_ltT, e_ltF, e_leT, e_leF, e_eqT, e_eqF, e_mE, e_Em, e_mlt, e_mle, e_ltm, e_lem, e_gz, e_gt, e_bs, ite_self, e_el, e_er, tq_get, tq_set, tq_inc, tb_get_neg, tb_set_neg, and_true, true_and, and_false, false_and, not_false_eq_true, not_true_eq_false] <;> rfl
  obtain ⟨e, he, rfl⟩ := rg_lt (by omega) hA.1 hA.2
  obtain ⟨x0, x, l, b1, b2, b3, b4, b5, b6, b7, b8, b9⟩ := ln_all (N := N) (y1 := y1) (y2 := y2) (w := w) hN hz e2 hn a4 he w.2.2.2.2.2.2.2.2.2.2.2.2.2
  refine Or.inl ⟨(nI x, chv v y1 y2 y3 n), (nI x, chw w F (nI l)), ?_, ?_, rfl, rfl, h.ch _ _ _ _ _ _⟩
  · have c1 : sX4_firstOf (chv v y1 y2 y3 n).2.2.2.2.1 (nI e) = some (nI x0) := by
      rw [← b5]
      exact c_first hn he
    have c2 : sX4_lengthFrom N (chv v y1 y2 y3 n).2.2.2.2.1 (nI x0) = some (nI x) := b7
    simp (disch := omega) only [sX10_chainLength, c_idx, e1, a1, c1, c2, ↓reduceIte, e_lt, e_bd, e_grd, e_clamp, e_l0, e_l1, e_l2, e_l3, e_l4, e_l5, e_l6, e_l7, e_l8, e_l9, e_l10, e_l12, e_l13, e_l20, e_l31, e_l32, e_l45, e_l48, e_l50, e_l57, e_l58, e_l59, e_l64, e_l70, e_l100, e_l106, e_l127, e_l138, e_l554, e_l799, e_l804, e_l1000, e_l2000, e_l2412, e_l100000, e_m1, nI_add, ni_mul, ni_sub, nI_clamp, e_ltT, e_ltF, e_leT, e_leF, e_eqT, e_eqF, e_mE, e_Em, e_mlt, e_mle, e_ltm, e_lem, e_gz, e_gt, e_bs, ite_self, e_el, e_er, tq_get, tq_set, tq_inc, tb_get_neg, tb_set_neg, and_true, true_and, and_false, false_and, not_false_eq_true, not_true_eq_false] <;> rfl
  · simp (disch := omega) only [sX11_chainLength, hie, m_go11, a2, b9, ↓reduceIte, e_lt, e_bd, e_grd, e_clamp, e_l0, e_l1, e_l2, e_l3, e_l4, e_l5, e_l6, e_l7, e_l8, e_l9, e_l10, e_l12, e_l13, e_l20, e_l31, e_l32, e_l45, e_l48, e_l50, e_l57, e_l58, e_l59, e_l64, e_l70, e_l100, e_l106, e_l127, e_l138, e_l554, e_l799, e_l804, e_l1000, e_l2000, e_l2412, e_l100000, e_m1, nI_add, ni_mul, ni_sub, nI_clamp, e_ltT, e_ltF, e_leT, e_leF, e_eqT, e_eqF, e_mE, e_Em, e_mlt, e_mle, e_ltm, e_lem, e_gz, e_gt, e_bs, ite_self, e_el, e_er, tq_get, tq_set, tq_inc, tb_get_neg, tb_set_neg, and_true, true_and, and_false, false_and, not_false_eq_true, not_true_eq_false] <;> rfl
theorem pu_hopInterval {N : Nat} (hN : 5000 ≤ N) : PU_hopInterval RR N := by
  intro cn v w p1 hcn h
  have hz : w.1.1 = 804 := h.1.1
  obtain ⟨n, y1, y2, y3, F, hn, e1, e2, a1, a2, a3, a4, a5⟩ := ch_all h hcn hN
  have hie := m_isEv (w := w) hz e2 (by omega)
  by_cases hA : nI 0 ≤ p1 ∧ p1 < nI n
  case neg =>
    refine Or.inr ⟨(FP.dconst0, setTh w (nI 1)), ?_, ?_, rfl, h.th (nI 1)⟩
    · simp (disch := omega) only [sX10_hopInterval, c_idx, e1, hA, ↓reduceIte, e_lt, e_bd, e_grd, e_clamp, e_l0, e_l1, e_l2, e_l3, e_l4, e_l5, e_l6, e_l7, e_l8, e_l9, e_l10, e_l12, e_l13, e_l20, e_l31, e_l32, e_l45, e_l48, e_l50, e_l57, e_l58, e_l59, e_l64, e_l70, e_l100, e_l106, e_l127, e_l138, e_l554, e_l799, e_l804, e_l1000, e_l2000, e_l2412, e_l100000, e_m1, nI_add, ni_mul, ni_sub, nI_clamp, e_ltT, e_ltF, e_leT, e_leF, e_eqT, e_eqF, e_mE, e_Em, e_mlt, e_mle, e_ltm, e_lem, e_gz, e_gt, e_bs, ite_self, e_el, e_er, tq_get, tq_set, tq_inc, tb_get_neg, tb_set_neg, and_true, true_and, and_false, false_and, not_false_eq_true, not_true_eq_false] <;> rfl
    · simp (disch := omega) only [sX11_hopInterval, hie, hA, m_go0, ↓reduceIte, e_lt, e_bd, e_grd, e_clamp, e_l0, e_l1, e_l2, e_l3, e_l4, e_l5, e_l6, e_l7, e_l8, e_l9, e_l10, e_l12, e_l13, e_l20, e_l31, e_l32, e_l45, e_l48, e_l50, e_l57, e_l58, e_l59, e_l64, e_l70, e_l100, e_l106, e_l127, e_l138, e_l554, e_l799, e_l804, e_l1000, e_l2000, e_l2412, e_l100000, e_m1, nI_add, ni_mul, ni_sub, nI_clamp, e_ltT, e_ltF, e_leT, e_leF, e_eqT, e_eqF, e_mE, e_Em, e_mlt, e_mle, e_ltm, e_lem, e_gz, e_gt, e_bs, ite_self, e_el, e_er, tq_get, tq_set, tq_inc, tb_get_neg, tb_set_neg, and_true, true_and, and_false, false_and, not_false_eq_true, not_true_eq_false] <;> rfl
  obtain ⟨e, he, rfl⟩ := rg_lt (by omega) hA.1 hA.2
  obtain ⟨x0, x, l, b1, b2, b3, b4, b5, b6, b7, b8, b9⟩ := ln_all (N := N) (y1 := y1) (y2 := y2) (w := w) hN hz e2 hn a4 he w.2.2.2.2.2.2.2.2.2.2.2.2.2
  have c1 : sX4_firstOf (chv v y1 y2 y3 n).2.2.2.2.1 (nI e) = some (nI x0) := by
    rw [← b5]
    exact c_first hn he
  have c2 : sX4_lengthFrom N (chv v y1 y2 y3 n).2.2.2.2.1 (nI x0) = some (nI x) := b7
  have c3 : sX4_lastFrom N (chv v y1 y2 y3 n).2.2.2.2.1 (nI x0) = some (nI l) := b8
  have c4 : sX2_read (chv v y1 y2 y3 n).2.2.1.2.2.2.1 (nI l) (nI 1) = some (w.1.2 (554 + 5 * l + 1)) := a5 l 1 b4 (by omega)
  have c5 : sX2_read (chv v y1 y2 y3 n).2.2.1.2.2.2.1 (nI x0) (nI 1) = some (w.1.2 (554 + 5 * x0 + 1)) := a5 x0 1 b1 (by omega)
  have hf := m_first (w := chw w F (nI l)) (N := N) hN rfl hn a4 he
  rw [b5] at hf
  have hz' : (chw w F (nI l)).1.1 = 804 := hz
  have hla : (chw w F (nI l)).2.2.2.2.2.2.2.2.2.2.2.2.2 = nI l := rfl
  have hg : (chw w F (nI l)).1.2 = w.1.2 := rfl
  by_cases q : x = 1
  · subst q
    refine Or.inl ⟨(FP.dconst0, chv v y1 y2 y3 n), (FP.dconst0, chw w F (nI l)), ?_, ?_, rfl, rfl, h.ch _ _ _ _ _ _⟩
    · simp (disch := omega) only [sX10_hopInterval, c_idx, e1, a1, c1, c2, ↓reduceIte, e_lt, e_bd, e_grd, e_clamp, e_l0, e_l1, e_l2, e_l3, e_l4, e_l5, e_l6, e_l7, e_l8, e_l9, e_l10, e_l12, e_l13, e_l20, e_l31, e_l32, e_l45, e_l48, e_l50, e_l57, e_l58, e_l59, e_l64, e_l70, e_l100, e_l106, e_l127, e_l138, e_l554, e_l799, e_l804, e_l1000, e_l2000, e_l2412, e_l100000, e_m1, nI_add, ni_mul, ni_sub, nI_clamp, e_ltT, e_ltF, e_leT, e_leF, e_eqT, e_eqF, e_mE, e_Em, e_mlt, e_mle, e_ltm, e_lem, e_gz, e_gt, e_bs, ite_self, e_el, e_er, tq_get, tq_set, tq_inc, tb_get_neg, tb_set_neg, and_true, true_and, and_false, false_and, not_false_eq_true, not_true_eq_false] <;> rfl
    · simp (disch := omega) only [sX11_hopInterval, hie, m_go11, a2, b9, hla, sX11_eventAt, hz', hf, ↓reduceIte, e_lt, e_bd, e_grd, e_clamp, e_l0, e_l1, e_l2, e_l3, e_l4, e_l5, e_l6, e_l7, e_l8, e_l9, e_l10, e_l12, e_l13, e_l20, e_l31, e_l32, e_l45, e_l48, e_l50, e_l57, e_l58, e_l59, e_l64, e_l70, e_l100, e_l106, e_l127, e_l138, e_l554, e_l799, e_l804, e_l1000, e_l2000, e_l2412, e_l100000, e_m1, nI_add, ni_mul, ni_sub, nI_clamp, e_ltT, e_ltF, e_leT, e_leF, e_eqT, e_eqF, e_mE, e_Em, e_mlt, e_mle, e_ltm, e_lem, e_gz, e_gt, e_bs, ite_self, e_el, e_er, tq_get, tq_set, tq_inc, tb_get_neg, tb_set_neg, and_true, true_and, and_false, false_and, not_false_eq_true, not_true_eq_false] <;> rfl
  · have hd := dv_ok (a := w.1.2 (554 + 5 * l + 1) - w.1.2 (554 + 5 * x0 + 1)) (b := nI (x - 1)) (by rw [nI_toInt (by omega)]; omega)
    have hgr : ∀ {α : Type} (K : Option α), grd (vf_n64 (FP.ddiv (FP.i2d (w.1.2 (554 + 5 * l + 1) - w.1.2 (554 + 5 * x0 + 1))) (FP.i2d (nI (x - 1))))) K = K := fun K => grd_pos hd K
    refine Or.inl ⟨(FP.ddiv (FP.i2d (w.1.2 (554 + 5 * l + 1) - w.1.2 (554 + 5 * x0 + 1))) (FP.i2d (nI (x - 1))), chv v y1 y2 y3 n), (FP.ddiv (FP.i2d (w.1.2 (554 + 5 * l + 1) - w.1.2 (554 + 5 * x0 + 1))) (FP.i2d (nI (x - 1))), chw w F (nI l)), ?_, ?_, rfl, rfl, h.ch _ _ _ _ _ _⟩
    · simp (disch := omega) only [sX10_hopInterval, c_idx, e1, a1, c1, c2, c3, c4, c5, hgr, ↓reduceIte, e_lt, e_bd, e_grd, e_clamp, e_l0, e_l1, e_l2, e_l3, e_l4, e_l5, e_l6, e_l7, e_l8, e_l9, e_l10, e_l12, e_l13, e_l20, e_l31, e_l32, e_l45, e_l48, e_l50, e_l57, e_l58, e_l59, e_l64, e_l70, e_l100, e_l106, e_l127, e_l138, e_l554, e_l799, e_l804, e_l1000, e_l2000, e_l2412, e_l100000, e_m1, nI_add, ni_mul, ni_sub, nI_clamp, e_ltT, e_ltF, e_leT, e_leF, e_eqT, e_eqF, e_mE, e_Em, e_mlt, e_mle, e_ltm, e_lem, e_gz, e_gt, e_bs, ite_self, e_el, e_er, tq_get, tq_set, tq_inc, tb_get_neg, tb_set_neg, and_true, true_and, and_false, false_and, not_false_eq_true, not_true_eq_false] <;> rfl
    · simp (disch := omega) only [sX11_hopInterval, hie, m_go11, a2, b9, hla, sX11_eventAt, hz', hf, hg, hgr, ↓reduceIte, e_lt, e_bd, e_grd, e_clamp, e_l0, e_l1, e_l2, e_l3, e_l4, e_l5, e_l6, e_l7, e_l8, e_l9, e_l10, e_l12, e_l13, e_l20, e_l31, e_l32, e_l45, e_l48, e_l50, e_l57, e_l58, e_l59, e_l64, e_l70, e_l100, e_l106, e_l127, e_l138, e_l554, e_l799, e_l804, e_l1000, e_l2000, e_l2412, e_l100000, e_m1, nI_add, ni_mul, ni_sub, nI_clamp, e_ltT, e_ltF, e_leT, e_leF, e_eqT, e_eqF, e_mE, e_Em, e_mlt, e_mle, e_ltm, e_lem, e_gz, e_gt, e_bs, ite_self, e_el, e_er, tq_get, tq_set, tq_inc, tb_get_neg, tb_set_neg, and_true, true_and, and_false, false_and, not_false_eq_true, not_true_eq_false] <;> rfl
