/-! the whole plan, on both sides -/
def rowOk (rd : Nat → Int32) (i : Nat) : Prop := ∃ lo hi dw : Nat, rd (3 * i) = nI lo ∧ rd (3 * i + 1) = nI hi ∧ rd (3 * i + 2) = nI dw ∧ lo ≤ hi ∧ hi < 32 ∧ 1 ≤ dw ∧ dw ≤ 20
def rowsOk (tf rd : Nat → Int32) (k : Nat) : Prop := k ≤ 12 ∧ (∀ i j, i < k → j < 3 → tf (i * 3 + j) = rd (3 * i + j)) ∧ ∀ i, i < k → rowOk rd i
theorem rows_add {tf rd : Nat → Int32} {k lo hh dw : Nat} (h : rowsOk tf rd k) (hk : k < 12) (h1 : lo ≤ hh) (h2 : hh < 32) (h3 : 1 ≤ dw) (h4 : dw ≤ 20) : rowsOk (upd (upd (upd tf (k * 3 + 0) (nI lo)) (k * 3 + 1) (nI hh)) (k * 3 + 2) (nI dw)) (upd (upd (upd rd (3 * k) (nI lo)) (3 * k + 1) (nI hh)) (3 * k + 2) (nI dw)) (k + 1) := by
  refine ⟨by omega, ?_, ?_⟩
  · intro i j hi hj
    by_cases e : i = k
    · subst e
      rcases (show j = 0 ∨ j = 1 ∨ j = 2 by omega) with rfl | rfl | rfl
      · rw [e_ne (by omega), e_ne (by omega), e_eq (by omega), e_ne (by omega), e_ne (by omega), e_eq (by omega)]
      · rw [e_ne (by omega), e_eq (by omega), e_ne (by omega), e_eq (by omega)]
      · rw [e_eq (by omega), e_eq (by omega)]
    · rw [e_ne (by omega), e_ne (by omega), e_ne (by omega), e_ne (by omega), e_ne (by omega), e_ne (by omega)]
      exact h.2.1 i j (by omega) hj
  · intro i hi
    by_cases e : i = k
    · subst e
      refine ⟨lo, hh, dw, ?_, ?_, ?_, h1, h2, h3, h4⟩
      · rw [e_ne (by omega), e_ne (by omega), e_eq (by omega)]
      · rw [e_ne (by omega), e_eq (by omega)]
      · rw [e_eq (by omega)]
    · obtain ⟨a, b, c, q1, q2, q3, q⟩ := h.2.2 i (by omega)
      refine ⟨a, b, c, ?_, ?_, ?_, q⟩
      · rw [e_ne (by omega), e_ne (by omega), e_ne (by omega)]; exact q1
      · rw [e_ne (by omega), e_ne (by omega), e_ne (by omega)]; exact q2
      · rw [e_ne (by omega), e_ne (by omega), e_ne (by omega)]; exact q3
section PL
variable {f tx g sv bf : Nat → Int32} {L n2 n5 : Nat} {sm thr so wr fo la : Int32}
theorem pl_both (h : TXT f tx L) {N : Nat} (hN : 5000 ≤ N) : ∀ (n k i : Nat) (tf rd : Nat → Int32), k + n = 12 → i ≤ L → rowsOk tf rd k →
    (∃ k' tf' rd' p tn, p ≤ L ∧ rowsOk tf' rd' k' ∧ (∀ M, n + 1 < M → qX6_parse_23 N M (nI k) 100 f (nI L) ((nI 12, nI 3, 12 * 3, tf), nI k, nI 0, nI 0) (nI i) m1 = some (.inl (tn, 100, f, nI L, ((nI 12, nI 3, 12 * 3, tf'), nI k', nI 0, nI 0), nI p, m1))) ∧ ∀ M, n + 1 < M → qX11_parsePlan_19 N M 804 g n2 sv sm thr 100 tx (nI L) (nI i) 36 rd (nI k) so wr fo n5 bf la = some (.inr (804, g, n2, sv, sm, thr, 100, tx, nI L, nI p, 36, rd', nI k', so, wr, fo, n5, bf, la))) ∨
    (∃ k' tf' rd' p tn r, r ≤ L ∧ (∀ M, n + 1 < M → qX6_parse_23 N M (nI k) 100 f (nI L) ((nI 12, nI 3, 12 * 3, tf), nI k, nI 0, nI 0) (nI i) m1 = some (.inr (tn, 100, f, nI L, ((nI 12, nI 3, 12 * 3, tf'), nI k', nI 0, nI 0), nI p, nI r))) ∧ ∀ M, n + 1 < M → qX11_parsePlan_19 N M 804 g n2 sv sm thr 100 tx (nI L) (nI i) 36 rd (nI k) so wr fo n5 bf la = some (.inl (804, g, n2, sv, sm, thr, 100, tx, nI L, nI r, 36, rd', nI k', so, wr, fo, n5, bf, la))) := by
  have hL := h.1
  intro n
  induction n with
  | zero =>
    intro k i tf rd hk hi hr
    obtain rfl : k = 12 := by omega
    by_cases q : i < L
    · rcases st_both (g := g) (sv := sv) (bf := bf) (n2 := n2) (n5 := n5) (sm := sm) (thr := thr) (so := so) (wr := wr) (fo := fo) (la := la) h hN hi (show 12 ≤ 12 by decide) tf rd with ⟨lo, hh, dw, i', q1, -⟩ | ⟨i', r, q1, q2, q3, q4⟩
      · omega
      obtain ⟨j, j1, j2, j3, j4⟩ := sp_both (g := g) (sv := sv) (bf := bf) (n2 := n2) (n5 := n5) (sm := sm) (thr := thr) (so := so) (wr := wr) (fo := fo) (la := la) h ((nI 12, nI 3, 12 * 3, tf), nI 12, nI 0, nI 0) (nI r) rd (nI 12) (L - i') i' (by omega)
      have j5 := j3 (nI i') N (by omega)
      refine Or.inr ⟨12, tf, rd, j, nI 13, r, q2, ?_, ?_⟩
      · intro M hM
        obtain ⟨M, rfl⟩ : ∃ M', M = M' + 2 := ⟨M - 2, by omega⟩
        simp (disch := omega) only [qX6_parse_23, q3, sX6_skipSpaces, j5, ↓reduceIte, e_lt, e_bd, e_grd, e_clamp, e_l0, e_l1, e_l2, e_l3, e_l4, e_l5, e_l6, e_l7, e_l8, e_l9, e_l10, e_l12, e_l13, e_l20, e_l31, e_l32, e_l45, e_l48, e_l50, e_l57, e_l58, e_l59, e_l64, e_l70, e_l100, e_l106, e_l127, e_l138, e_l554, e_l799, e_l804, e_l1000, e_l2000, e_l2412, e_l100000, e_m1, nI_add, ni_mul, ni_sub, nI_clamp, e_ltT, e_ltF, e_leT, e_leF, e_eqT, e_eqF, e_mE, e_Em, e_mlt, e_mle, e_ltm, e_lem, e_gz, e_gt, e_bs, ite_self, e_el, e_er, tq_get, tq_set, tq_inc, tb_get_neg, tb_set_neg, and_true, true_and, and_false, false_and, not_false_eq_true, not_true_eq_false] <;> rfl
      · intro M hM
        obtain ⟨M, rfl⟩ : ∃ M', M = M' + 2 := ⟨M - 2, by omega⟩
        simp (disch := omega) only [qX11_parsePlan_19, q4, ↓reduceIte, e_lt, e_bd, e_grd, e_clamp, e_l0, e_l1, e_l2, e_l3, e_l4, e_l5, e_l6, e_l7, e_l8, e_l9, e_l10, e_l12, e_l13, e_l20, e_l31, e_l32, e_l45, e_l48, e_l50, e_l57, e_l58, e_l59, e_l64, e_l70, e_l100, e_l106, e_l127, e_l138, e_l554, e_l799, e_l804, e_l1000, e_l2000, e_l2412, e_l100000, e_m1, nI_add, ni_mul, ni_sub, nI_clamp, e_ltT, e_ltF, e_leT, e_leF, e_eqT, e_eqF, e_mE, e_Em, e_mlt, e_mle, e_ltm, e_lem, e_gz, e_gt, e_bs, ite_self, e_el, e_er, tq_get, tq_set, tq_inc, tb_get_neg, tb_set_neg, and_true, true_and, and_false, false_and, not_false_eq_true, not_true_eq_false] <;> rfl
    · refine Or.inl ⟨12, tf, rd, i, nI 12, hi, hr, ?_, ?_⟩
      · intro M hM
        obtain ⟨M, rfl⟩ : ∃ M', M = M' + 1 := ⟨M - 1, by omega⟩
        simp (disch := omega) only [qX6_parse_23, ↓reduceIte, e_lt, e_bd, e_grd, e_clamp, e_l0, e_l1, e_l2, e_l3, e_l4, e_l5, e_l6, e_l7, e_l8, e_l9, e_l10, e_l12, e_l13, e_l20, e_l31, e_l32, e_l45, e_l48, e_l50, e_l57, e_l58, e_l59, e_l64, e_l70, e_l100, e_l106, e_l127, e_l138, e_l554, e_l799, e_l804, e_l1000, e_l2000, e_l2412, e_l100000, e_m1, nI_add, ni_mul, ni_sub, nI_clamp, e_ltT, e_ltF, e_leT, e_leF, e_eqT, e_eqF, e_mE, e_Em, e_mlt, e_mle, e_ltm, e_lem, e_gz, e_gt, e_bs, ite_self, e_el, e_er, tq_get, tq_set, tq_inc, tb_get_neg, tb_set_neg, and_true, true_and, and_false, false_and, not_false_eq_true, not_true_eq_false] <;> rfl
      · intro M hM
        obtain ⟨M, rfl⟩ : ∃ M', M = M' + 1 := ⟨M - 1, by omega⟩
        simp (disch := omega) only [qX11_parsePlan_19, ↓reduceIte, e_lt, e_bd, e_grd, e_clamp, e_l0, e_l1, e_l2, e_l3, e_l4, e_l5, e_l6, e_l7, e_l8, e_l9, e_l10, e_l12, e_l13, e_l20, e_l31, e_l32, e_l45, e_l48, e_l50, e_l57, e_l58, e_l59, e_l64, e_l70, e_l100, e_l106, e_l127, e_l138, e_l554, e_l799, e_l804, e_l1000, e_l2000, e_l2412, e_l100000, e_m1, nI_add, ni_mul, ni_sub, nI_clamp, e_ltT, e_ltF, e_leT, e_leF, e_eqT, e_eqF, e_mE, e_Em, e_mlt, e_mle, e_ltm, e_lem, e_gz, e_gt, e_bs, ite_self, e_el, e_er, tq_get, tq_set, tq_inc, tb_get_neg, tb_set_neg, and_true, true_and, and_false, false_and, not_false_eq_true, not_true_eq_false] <;> rfl
  | succ n ih =>
    intro k i tf rd hk hi hr
    by_cases q : i < L
    · rcases st_both (g := g) (sv := sv) (bf := bf) (n2 := n2) (n5 := n5) (sm := sm) (thr := thr) (so := so) (wr := wr) (fo := fo) (la := la) h hN hi (show k ≤ 12 by omega) tf rd with ⟨lo, hh, dw, i', s1, s2, s3, s4, s5, s6, s7, s8, s9⟩ | ⟨i', r, q1, q2, q3, q4⟩
      · have hr' := rows_add hr s1 s2 s3 s4 s5
        generalize upd (upd (upd tf (k * 3 + 0) (nI lo)) (k * 3 + 1) (nI hh)) (k * 3 + 2) (nI dw) = tf1 at hr' s8
        generalize upd (upd (upd rd (3 * k) (nI lo)) (3 * k + 1) (nI hh)) (3 * k + 2) (nI dw) = rd1 at hr' s9
        obtain ⟨j, j1, j2, j3, j4⟩ := sp_both (g := g) (sv := sv) (bf := bf) (n2 := n2) (n5 := n5) (sm := sm) (thr := thr) (so := so) (wr := wr) (fo := fo) (la := la) h ((nI 12, nI 3, 12 * 3, tf1), nI (k + 1), nI 0, nI 0) m1 rd1 (nI (k + 1)) (L - i') i' (by omega)
        have j5 := j3 (nI i') N (by omega)
        have j6 := j4 (nI i') N (by omega)
        rcases ih (k + 1) j tf1 rd1 (by omega) j2 hr' with ⟨k', tf', rd', p, tn, z1, z2, z3, z4⟩ | ⟨k', tf', rd', p, tn, r, z1, z3, z4⟩
        · refine Or.inl ⟨k', tf', rd', p, tn, z1, z2, ?_, ?_⟩
          · intro M hM
            obtain ⟨M, rfl⟩ : ∃ M', M = M' + 1 := ⟨M - 1, by omega⟩
            have := z3 M (by omega)
            simp (disch := omega) only [qX6_parse_23, s8, sX6_skipSpaces, j5, this, ↓reduceIte, e_lt, e_bd, e_grd, e_clamp, e_l0, e_l1, e_l2, e_l3, e_l4, e_l5, e_l6, e_l7, e_l8, e_l9, e_l10, e_l12, e_l13, e_l20, e_l31, e_l32, e_l45, e_l48, e_l50, e_l57, e_l58, e_l59, e_l64, e_l70, e_l100, e_l106, e_l127, e_l138, e_l554, e_l799, e_l804, e_l1000, e_l2000, e_l2412, e_l100000, e_m1, nI_add, ni_mul, ni_sub, nI_clamp, e_ltT, e_ltF, e_leT, e_leF, e_eqT, e_eqF, e_mE, e_Em, e_mlt, e_mle, e_ltm, e_lem, e_gz, e_gt, e_bs, ite_self, e_el, e_er, tq_get, tq_set, tq_inc, tb_get_neg, tb_set_neg, and_true, true_and, and_false, false_and, not_false_eq_true, not_true_eq_false] <;> rfl
          · intro M hM
            obtain ⟨M, rfl⟩ : ∃ M', M = M' + 1 := ⟨M - 1, by omega⟩
            have := z4 M (by omega)
            simp (disch := omega) only [qX11_parsePlan_19, s9, sX11_skips, j6, this, ↓reduceIte, e_lt, e_bd, e_grd, e_clamp, e_l0, e_l1, e_l2, e_l3, e_l4, e_l5, e_l6, e_l7, e_l8, e_l9, e_l10, e_l12, e_l13, e_l20, e_l31, e_l32, e_l45, e_l48, e_l50, e_l57, e_l58, e_l59, e_l64, e_l70, e_l100, e_l106, e_l127, e_l138, e_l554, e_l799, e_l804, e_l1000, e_l2000, e_l2412, e_l100000, e_m1, nI_add, ni_mul, ni_sub, nI_clamp, e_ltT, e_ltF, e_leT, e_leF, e_eqT, e_eqF, e_mE, e_Em, e_mlt, e_mle, e_ltm, e_lem, e_gz, e_gt, e_bs, ite_self, e_el, e_er, tq_get, tq_set, tq_inc, tb_get_neg, tb_set_neg, and_true, true_and, and_false, false_and, not_false_eq_true, not_true_eq_false] <;> rfl
        · refine Or.inr ⟨k', tf', rd', p, tn, r, z1, ?_, ?_⟩
          · intro M hM
            obtain ⟨M, rfl⟩ : ∃ M', M = M' + 1 := ⟨M - 1, by omega⟩
            have := z3 M (by omega)
            simp (disch := omega) only [qX6_parse_23, s8, sX6_skipSpaces, j5, this, ↓reduceIte, e_lt, e_bd, e_grd, e_clamp, e_l0, e_l1, e_l2, e_l3, e_l4, e_l5, e_l6, e_l7, e_l8, e_l9, e_l10, e_l12, e_l13, e_l20, e_l31, e_l32, e_l45, e_l48, e_l50, e_l57, e_l58, e_l59, e_l64, e_l70, e_l100, e_l106, e_l127, e_l138, e_l554, e_l799, e_l804, e_l1000, e_l2000, e_l2412, e_l100000, e_m1, nI_add, ni_mul, ni_sub, nI_clamp, e_ltT, e_ltF, e_leT, e_leF, e_eqT, e_eqF, e_mE, e_Em, e_mlt, e_mle, e_ltm, e_lem, e_gz, e_gt, e_bs, ite_self, e_el, e_er, tq_get, tq_set, tq_inc, tb_get_neg, tb_set_neg, and_true, true_and, and_false, false_and, not_false_eq_true, not_true_eq_false] <;> rfl
          · intro M hM
            obtain ⟨M, rfl⟩ : ∃ M', M = M' + 1 := ⟨M - 1, by omega⟩
            have := z4 M (by omega)
            simp (disch := omega) only [qX11_parsePlan_19, s9, sX11_skips, j6, this, ↓reduceIte, e_lt, e_bd, e_grd, e_clamp, e_l0, e_l1, e_l2, e_l3, e_l4, e_l5, e_l6, e_l7, e_l8, e_l9, e_l10, e_l12, e_l13, e_l20, e_l31, e_l32, e_l45, e_l48, e_l50, e_l57, e_l58, e_l59, e_l64, e_l70, e_l100, e_l106, e_l127, e_l138, e_l554, e_l799, e_l804, e_l1000, e_l2000, e_l2412, e_l100000, e_m1, nI_add, ni_mul, ni_sub, nI_clamp, e_ltT, e_ltF, e_leT, e_leF, e_eqT, e_eqF, e_mE, e_Em, e_mlt, e_mle, e_ltm, e_lem, e_gz, e_gt, e_bs, ite_self, e_el, e_er, tq_get, tq_set, tq_inc, tb_get_neg, tb_set_neg, and_true, true_and, and_false, false_and, not_false_eq_true, not_true_eq_false] <;> rfl
      · obtain ⟨j, j1, j2, j3, j4⟩ := sp_both (g := g) (sv := sv) (bf := bf) (n2 := n2) (n5 := n5) (sm := sm) (thr := thr) (so := so) (wr := wr) (fo := fo) (la := la) h ((nI 12, nI 3, 12 * 3, tf), nI k, nI 0, nI 0) (nI r) rd (nI k) (L - i') i' (by omega)
        have j5 := j3 (nI i') N (by omega)
        refine Or.inr ⟨k, tf, rd, j, nI (k + 1), r, q2, ?_, ?_⟩
        · intro M hM
          obtain ⟨M, rfl⟩ : ∃ M', M = M' + 2 := ⟨M - 2, by omega⟩
          simp (disch := omega) only [qX6_parse_23, q3, sX6_skipSpaces, j5, ↓reduceIte, e_lt, e_bd, e_grd, e_clamp, e_l0, e_l1, e_l2, e_l3, e_l4, e_l5, e_l6, e_l7, e_l8, e_l9, e_l10, e_l12, e_l13, e_l20, e_l31, e_l32, e_l45, e_l48, e_l50, e_l57, e_l58, e_l59, e_l64, e_l70, e_l100, e_l106, e_l127, e_l138, e_l554, e_l799, e_l804, e_l1000, e_l2000, e_l2412, e_l100000, e_m1, nI_add, ni_mul, ni_sub, nI_clamp, e_ltT, e_ltF, e_leT, e_leF, e_eqT, e_eqF, e_mE, e_Em, e_mlt, e_mle, e_ltm, e_lem, e_gz, e_gt, e_bs, ite_self, e_el, e_er, tq_get, tq_set, tq_inc, tb_get_neg, tb_set_neg, and_true, true_and, and_false, false_and, not_false_eq_true, not_true_eq_false] <;> rfl
        · intro M hM
          obtain ⟨M, rfl⟩ : ∃ M', M = M' + 2 := ⟨M - 2, by omega⟩
          simp (disch := omega) only [qX11_parsePlan_19, q4, ↓reduceIte, e_lt, e_bd, e_grd, e_clamp, e_l0, e_l1, e_l2, e_l3, e_l4, e_l5, e_l6, e_l7, e_l8, e_l9, e_l10, e_l12, e_l13, e_l20, e_l31, e_l32, e_l45, e_l48, e_l50, e_l57, e_l58, e_l59, e_l64, e_l70, e_l100, e_l106, e_l127, e_l138, e_l554, e_l799, e_l804, e_l1000, e_l2000, e_l2412, e_l100000, e_m1, nI_add, ni_mul, ni_sub, nI_clamp, e_ltT, e_ltF, e_leT, e_leF, e_eqT, e_eqF, e_mE, e_Em, e_mlt, e_mle, e_ltm, e_lem, e_gz, e_gt, e_bs, ite_self, e_el, e_er, tq_get, tq_set, tq_inc, tb_get_neg, tb_set_neg, and_true, true_and, and_false, false_and, not_false_eq_true, not_true_eq_false] <;> rfl
    · refine Or.inl ⟨k, tf, rd, i, nI k, hi, hr, ?_, ?_⟩
      · intro M hM
        obtain ⟨M, rfl⟩ : ∃ M', M = M' + 1 := ⟨M - 1, by omega⟩
        simp (disch := omega) only [qX6_parse_23, ↓reduceIte, e_lt, e_bd, e_grd, e_clamp, e_l0, e_l1, e_l2, e_l3, e_l4, e_l5, e_l6, e_l7, e_l8, e_l9, e_l10, e_l12, e_l13, e_l20, e_l31, e_l32, e_l45, e_l48, e_l50, e_l57, e_l58, e_l59, e_l64, e_l70, e_l100, e_l106, e_l127, e_l138, e_l554, e_l799, e_l804, e_l1000, e_l2000, e_l2412, e_l100000, e_m1, nI_add, ni_mul, ni_sub, nI_clamp, e_ltT, e_ltF, e_leT, e_leF, e_eqT, e_eqF, e_mE, e_Em, e_mlt, e_mle, e_ltm, e_lem, e_gz, e_gt, e_bs, ite_self, e_el, e_er, tq_get, tq_set, tq_inc, tb_get_neg, tb_set_neg, and_true, true_and, and_false, false_and, not_false_eq_true, not_true_eq_false] <;> rfl
      · intro M hM
        obtain ⟨M, rfl⟩ : ∃ M', M = M' + 1 := ⟨M - 1, by omega⟩
        simp (disch := omega) only [qX11_parsePlan_19, ↓reduceIte, e_lt, e_bd, e_grd, e_clamp, e_l0, e_l1, e_l2, e_l3, e_l4, e_l5, e_l6, e_l7, e_l8, e_l9, e_l10, e_l12, e_l13, e_l20, e_l31, e_l32, e_l45, e_l48, e_l50, e_l57, e_l58, e_l59, e_l64, e_l70, e_l100, e_l106, e_l127, e_l138, e_l554, e_l799, e_l804, e_l1000, e_l2000, e_l2412, e_l100000, e_m1, nI_add, ni_mul, ni_sub, nI_clamp, e_ltT, e_ltF, e_leT, e_leF, e_eqT, e_eqF, e_mE, e_Em, e_mlt, e_mle, e_ltm, e_lem, e_gz, e_gt, e_bs, ite_self, e_el, e_er, tq_get, tq_set, tq_inc, tb_get_neg, tb_set_neg, and_true, true_and, and_false, false_and, not_false_eq_true, not_true_eq_false] <;> rfl
end PL
/-- the reference's copy -/
theorem q58 {o : V11} {k : Nat} (hk : k ≤ 12) (h1 : o.2.2.2.2.2.2.2.2.1 = nI k) (h2 : o.2.2.2.2.2.2.2.1.1 = 36) (h3 : o.1.1 = 804) : ∀ (N i : Nat) (u : Nat → Int32), i ≤ 3 * k → 3 * k - i < N → ∃ u', qX11_parsePlan_58 o N (nI i) u = some (nI (3 * k), u') ∧ ∀ j, u' j = if 70 + i ≤ j ∧ j < 70 + 3 * k then o.2.2.2.2.2.2.2.1.2 (j - 70) else u j
  | 0, _, _, _, hn => by omega
  | N + 1, i, u, hi, hn => by
    by_cases q : i = 3 * k
    · subst q
      refine ⟨u, ?_, fun j => (if_neg (by omega)).symm⟩
      simp (disch := omega) only [qX11_parsePlan_58, h1, ↓reduceIte, e_lt, e_bd, e_grd, e_clamp, e_l0, e_l1, e_l2, e_l3, e_l4, e_l5, e_l6, e_l7, e_l8, e_l9, e_l10, e_l12, e_l13, e_l20, e_l31, e_l32, e_l45, e_l48, e_l50, e_l57, e_l58, e_l59, e_l64, e_l70, e_l100, e_l106, e_l127, e_l138, e_l554, e_l799, e_l804, e_l1000, e_l2000, e_l2412, e_l100000, e_m1, nI_add, ni_mul, ni_sub, nI_clamp, e_ltT, e_ltF, e_leT, e_leF, e_eqT, e_eqF, e_mE, e_Em, e_mlt, e_mle, e_ltm, e_lem, e_gz, e_gt, e_bs, ite_self, e_el, e_er, tq_get, tq_set, tq_inc, tb_get_neg, tb_set_neg, and_true, true_and, and_false, false_and, not_false_eq_true, not_true_eq_false] <;> rfl
    · obtain ⟨u', a1, a2⟩ := q58 hk h1 h2 h3 N (i + 1) (upd u (70 + i) (o.2.2.2.2.2.2.2.1.2 i)) (by omega) (by omega)
      refine ⟨u', ?_, fun j => ?_⟩
      · simp (disch := omega) only [qX11_parsePlan_58, h1, h2, h3, a1, ↓reduceIte, e_lt, e_bd, e_grd, e_clamp, e_l0, e_l1, e_l2, e_l3, e_l4, e_l5, e_l6, e_l7, e_l8, e_l9, e_l10, e_l12, e_l13, e_l20, e_l31, e_l32, e_l45, e_l48, e_l50, e_l57, e_l58, e_l59, e_l64, e_l70, e_l100, e_l106, e_l127, e_l138, e_l554, e_l799, e_l804, e_l1000, e_l2000, e_l2412, e_l100000, e_m1, nI_add, ni_mul, ni_sub, nI_clamp, e_ltT, e_ltF, e_leT, e_leF, e_eqT, e_eqF, e_mE, e_Em, e_mlt, e_mle, e_ltm, e_lem, e_gz, e_gt, e_bs, ite_self, e_el, e_er, tq_get, tq_set, tq_inc, tb_get_neg, tb_set_neg, and_true, true_and, and_false, false_and, not_false_eq_true, not_true_eq_false] <;> rfl
      · rw [a2]
        by_cases z : 70 + (i + 1) ≤ j ∧ j < 70 + 3 * k
        · rw [if_pos z, if_pos (by omega)]
        · rw [if_neg z]
          by_cases z2 : j = 70 + i
          · rw [e_eq z2, if_pos (by omega), show j - 70 = i by omega]
          · rw [e_ne z2, if_neg (by omega)]
theorem pu_parsePlan {N : Nat} (hN : 5000 ≤ N) : PU_parsePlan RR N := by
  intro cn v w hcn h
  obtain ⟨⟨⟨⟨tn, f⟩, tl⟩, ⟨tb, pc, pp, pe⟩, ps, er⟩, ln, st, hi, ch, lv⟩ := v
  obtain ⟨⟨gn, g⟩, ⟨n2, sv⟩, sm, thr, ⟨tn2, tx⟩, tl2, pl, ⟨rn, rd⟩, rm, so, wr, fo, ⟨n5, bf⟩, la⟩ := w
  obtain ⟨⟨z1, z2, z3, z4, z5, z6, z7⟩, ⟨x1, L, x2, x3, x4, x5⟩, h3, m, h4, h5⟩ := h
  obtain ⟨tf, rfl⟩ := z6.ex
  change gn = 804 at z1
  change n2 = 3216 at z2
  change tn2 = 100 at z3
  change rn = 36 at z4
  change n5 = 50 at z5
  change tn = 100 at x1
  change tl = nI L at x3
  change tl2 = nI L at x4
  subst z1 z2 z3 z4 z5 x1 x3 x4
  have hT : TXT f tx L := ⟨x2, x5⟩
  obtain ⟨j, j1, j2, j3, j4⟩ := sp_both (g := g) (sv := sv) (bf := bf) (n2 := 3216) (n5 := 50) (sm := sm) (thr := nI 0) (so := so) (wr := wr) (fo := fo) (la := la) hT ((nI 12, nI 3, 12 * 3, tf), nI 0, nI 0, nI 0) m1 rd (nI 0) L 0 (by omega)
  have j5 := j3 (nI 0) N (by omega)
  have j6 := j4 (nI 0) N (by omega)
  have hr0 : rowsOk tf rd 0 := ⟨by omega, fun i j hi => by omega, fun i hi => by omega⟩
  have RX : ∀ (tf' : Nat → Int32) (k' : Int32) (p' e' r' : Int32) (rd' : Nat → Int32), RR cn ((((100, f), nI L), ((nI 12, nI 3, 12 * 3, tf'), k', nI 0, nI 0), p', e'), ln, st, hi, ch, lv) ((804, g), (3216, sv), sm, nI 0, (100, tx), nI L, r', (36, rd'), k', so, wr, fo, (50, bf), la) := fun tf' k' p' e' r' rd' => ⟨⟨rfl, rfl, rfl, rfl, rfl, TB.mk 12 3 tf', z7⟩, ⟨rfl, L, x2, rfl, rfl, x5⟩, h3, m, h4, h5⟩
  rcases pl_both (g := g) (sv := sv) (bf := bf) (n2 := 3216) (n5 := 50) (sm := sm) (thr := nI 0) (so := so) (wr := wr) (fo := fo) (la := la) hT hN 12 0 j tf rd (by omega) j2 hr0 with ⟨k, tf', rd', p, tn, y1, y2, y3, y4⟩ | ⟨k, tf', rd', p, tn, r, y1, y3, y4⟩
  · have y5 := y3 N (by omega)
    have y6 := y4 N (by omega)
    have hR := RX tf' (nI k) (nI p) m1 (nI p) rd'
    obtain ⟨hv, sv', m', e1, e2, e3⟩ := sv_both hR hN (nI 0)
    simp only [setTh] at e1 e2
    obtain ⟨-, -, ⟨t1, t2, t, t3, t4, t5, t6, t7⟩, -⟩ := id hR
    obtain ⟨k1, k2, k3⟩ := y2
    obtain ⟨T', c1, c2, c3⟩ := tb_copy t2.1 (TB.mk 12 3 tf') (by decide)
    obtain ⟨u', u1, u2⟩ := q58 (o := ((804, g), (3216, sv'), nI m', nI 0, (100, tx), nI L, nI p, (36, rd'), nI k, so, wr, fo, (50, bf), la)) k1 rfl rfl rfl N 0 g (by omega) (by omega)
    refine ⟨(nI k, ((((100, f), nI L), ((nI 12, nI 3, 12 * 3, tf'), nI k, nI 0, nI 0), nI p, m1), ln, (st.1, (T', nI k, nI 0, nI 0), st.2.2), hv, ch, lv)), (nI k, ((804, upd (upd (upd u' 6 (nI k)) 7 (nI 0)) 8 (nI 0)), (3216, sv'), nI m', nI 0, (100, tx), nI L, nI p, (36, rd'), nI k, so, wr, fo, (50, bf), la)), ?_, ?_, rfl, ?_⟩
    · simp (disch := omega) only [sX10_parsePlan, sX6_parse, sX5_clear, sX6_skipSpaces, j5, y5, e1, sX5_copyFrom, c1, ↓reduceIte, e_lt, e_bd, e_grd, e_clamp, e_l0, e_l1, e_l2, e_l3, e_l4, e_l5, e_l6, e_l7, e_l8, e_l9, e_l10, e_l12, e_l13, e_l20, e_l31, e_l32, e_l45, e_l48, e_l50, e_l57, e_l58, e_l59, e_l64, e_l70, e_l100, e_l106, e_l127, e_l138, e_l554, e_l799, e_l804, e_l1000, e_l2000, e_l2412, e_l100000, e_m1, nI_add, ni_mul, ni_sub, nI_clamp, e_ltT, e_ltF, e_leT, e_leF, e_eqT, e_eqF, e_mE, e_Em, e_mlt, e_mle, e_ltm, e_lem, e_gz, e_gt, e_bs, ite_self, e_el, e_er, tq_get, tq_set, tq_inc, tb_get_neg, tb_set_neg, and_true, true_and, and_false, false_and, not_false_eq_true, not_true_eq_false] <;> rfl
    · simp (disch := omega) only [sX11_parsePlan, sX11_skips, j6, y6, e2, u1, ↓reduceIte, e_lt, e_bd, e_grd, e_clamp, e_l0, e_l1, e_l2, e_l3, e_l4, e_l5, e_l6, e_l7, e_l8, e_l9, e_l10, e_l12, e_l13, e_l20, e_l31, e_l32, e_l45, e_l48, e_l50, e_l57, e_l58, e_l59, e_l64, e_l70, e_l100, e_l106, e_l127, e_l138, e_l554, e_l799, e_l804, e_l1000, e_l2000, e_l2412, e_l100000, e_m1, nI_add, ni_mul, ni_sub, nI_clamp, e_ltT, e_ltF, e_leT, e_leF, e_eqT, e_eqF, e_mE, e_Em, e_mlt, e_mle, e_ltm, e_lem, e_gz, e_gt, e_bs, ite_self, e_el, e_er, tq_get, tq_set, tq_inc, tb_get_neg, tb_set_neg, and_true, true_and, and_false, false_and, not_false_eq_true, not_true_eq_false] <;> rfl
    · have G : ∀ j, ¬ (6 ≤ j ∧ j ≤ 8 ∨ 70 ≤ j ∧ j < 106) → g j = upd (upd (upd u' 6 (nI k)) 7 (nI 0)) 8 (nI 0) j := by
        intro j hj
        rw [e_ne (by omega), e_ne (by omega), e_ne (by omega), u2, if_neg (by omega)]
      have G2 : ∀ j, j < 3 * k → upd (upd (upd u' 6 (nI k)) 7 (nI 0)) 8 (nI 0) (70 + j) = rd' j := by
        intro j hj
        rw [e_ne (by omega), e_ne (by omega), e_ne (by omega), u2, if_pos (by omega), show 70 + j - 70 = j by omega]
      refine RR.up hR ⟨Rsig_cg (fun k hk => G k (by omega)) t1, ⟨c2, k, 0, 0, k1, rfl, ?_, rfl, ?_, rfl, ?_, by decide, by omega, fun q => q, ?_, ?_, ?_⟩, t, by omega, ?_, Rdet_cg (fun k hk => G k (by omega)) t5, Rev_cg (fun k hk => G k (by omega)) t6, Rnum_cg (fun k hk => G k (by omega)) t7⟩ e3
      · rw [e_ne (by omega), e_ne (by omega), e_eq rfl]
      · rw [e_ne (by omega), e_eq rfl]
      · rw [e_eq rfl]
      · intro q
        obtain ⟨lo, hi', dw, -, -, q3, -, -, q4, q5⟩ := k3 0 q
        rw [show 70 + 3 * 0 + 2 = 70 + (3 * 0 + 2) by omega, G2 _ (by omega), q3]
        exact nI_lt (by omega) (by omega)
      · intro i j hi' hj
        rw [show 70 + 3 * i + j = 70 + (3 * i + j) by omega, G2 _ (by omega), ← k2 i j hi' hj]
        exact c3 _ (by omega)
      · intro i hi'
        obtain ⟨lo, hh, dw, q1, q2, q3, q⟩ := k3 i hi'
        refine ⟨lo, hh, dw, ?_, ?_, ?_, q⟩
        · rw [G2 _ (by omega)]; exact q1
        · rw [show 70 + 3 * i + 1 = 70 + (3 * i + 1) by omega, G2 _ (by omega)]; exact q2
        · rw [show 70 + 3 * i + 2 = 70 + (3 * i + 2) by omega, G2 _ (by omega)]; exact q3
      · rw [← G 0 (by omega)]; exact t4
  · have y5 := y3 N (by omega)
    have y6 := y4 N (by omega)
    refine ⟨((-10 : Int32) - nI r, ((((100, f), nI L), ((nI 12, nI 3, 12 * 3, tf'), nI k, nI 0, nI 0), nI p, nI r), ln, st, hi, ch, lv)), ((-10 : Int32) - nI r, ((804, g), (3216, sv), sm, nI 0, (100, tx), nI L, nI r, (36, rd'), nI k, so, wr, fo, (50, bf), la)), ?_, ?_, rfl, (RX tf' (nI k) (nI p) (nI r) (nI r) rd').th (nI 0)⟩
    · simp (disch := omega) only [sX10_parsePlan, sX6_parse, sX5_clear, sX6_skipSpaces, j5, y5, ↓reduceIte, e_lt, e_bd, e_grd, e_clamp, e_l0, e_l1, e_l2, e_l3, e_l4, e_l5, e_l6, e_l7, e_l8, e_l9, e_l10, e_l12, e_l13, e_l20, e_l31, e_l32, e_l45, e_l48, e_l50, e_l57, e_l58, e_l59, e_l64, e_l70, e_l100, e_l106, e_l127, e_l138, e_l554, e_l799, e_l804, e_l1000, e_l2000, e_l2412, e_l100000, e_m1, nI_add, ni_mul, ni_sub, nI_clamp, e_ltT, e_ltF, e_leT, e_leF, e_eqT, e_eqF, e_mE, e_Em, e_mlt, e_mle, e_ltm, e_lem, e_gz, e_gt, e_bs, ite_self, e_el, e_er, tq_get, tq_set, tq_inc, tb_get_neg, tb_set_neg, and_true, true_and, and_false, false_and, not_false_eq_true, not_true_eq_false] <;> rfl
    · simp (disch := omega) only [sX11_parsePlan, sX11_skips, j6, y6, ↓reduceIte, e_lt, e_bd, e_grd, e_clamp, e_l0, e_l1, e_l2, e_l3, e_l4, e_l5, e_l6, e_l7, e_l8, e_l9, e_l10, e_l12, e_l13, e_l20, e_l31, e_l32, e_l45, e_l48, e_l50, e_l57, e_l58, e_l59, e_l64, e_l70, e_l100, e_l106, e_l127, e_l138, e_l554, e_l799, e_l804, e_l1000, e_l2000, e_l2412, e_l100000, e_m1, nI_add, ni_mul, ni_sub, nI_clamp, e_ltT, e_ltF, e_leT, e_leF, e_eqT, e_eqF, e_mE, e_Em, e_mlt, e_mle, e_ltm, e_lem, e_gz, e_gt, e_bs, ite_self, e_el, e_er, tq_get, tq_set, tq_inc, tb_get_neg, tb_set_neg, and_true, true_and, and_false, false_and, not_false_eq_true, not_true_eq_false] <;> rfl
