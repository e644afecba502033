/-! reading the plan: bytes, digits, numbers, signs -/
def btx (tx : Nat → Int32) (L i : Nat) : Int32 := if i < L then tx i else m1
def dgx (tx : Nat → Int32) (L i : Nat) : Prop := nI 48 ≤ btx tx L i ∧ btx tx L i ≤ nI 57
def TXT (f tx : Nat → Int32) (L : Nat) : Prop := L ≤ 100 ∧ ∀ k, k < L → f k = tx k ∧ ∃ c, c < 128 ∧ tx k = nI c
section PR
variable {f tx g sv rd bf : Nat → Int32} {L n2 n5 : Nat} {sm thr rm so wr fo la : Int32} {dr : V5}
theorem bt_cases (h : TXT f tx L) (i : Nat) : (i < L ∧ ∃ c, c < 128 ∧ btx tx L i = nI c) ∨ (L ≤ i ∧ btx tx L i = m1) := by
  unfold btx
  by_cases q : i < L
  · obtain ⟨-, c, c1, c2⟩ := h.2 i q
    exact Or.inl ⟨q, c, c1, by rw [if_pos q]; exact c2⟩
  · exact Or.inr ⟨by omega, if_neg q⟩
theorem dg_of (h : TXT f tx L) {i : Nat} (hd : dgx tx L i) : i < L ∧ ∃ c, 48 ≤ c ∧ c ≤ 57 ∧ btx tx L i = nI c := by
  unfold dgx at hd
  rcases bt_cases h i with ⟨q, c, c1, c2⟩ | ⟨-, q⟩
  · rw [c2, nI_leI (by decide) (by omega), nI_leI (by omega) (by decide)] at hd
    exact ⟨q, c, hd.1, hd.2, c2⟩
  · rw [q, e_lem (by decide)] at hd
    exact hd.1.elim
theorem c_by (h : TXT f tx L) {i : Nat} (hi : i ≤ 200) : sX0_byteAt ((100, f), nI L) (nI i) = some (btx tx L i) := by
  unfold btx
  have hL := h.1
  by_cases q : i < L
  · obtain ⟨e, -⟩ := h.2 i q
    rw [if_pos q, ← e]
    simp (disch := omega) only [sX0_byteAt, c_within, ↓reduceIte, e_lt, e_bd, e_grd, e_clamp, e_l0, e_l1, e_l2, e_l3, e_l4, e_l5, e_l6, e_l7, e_l8, e_l9, e_l10, e_l12, e_l13, e_l20, e_l31, e_l32, e_l45, e_l48, e_l50, e_l57, e_l58, e_l59, e_l64, e_l70, e_l100, e_l106, e_l127, e_l138, e_l554, e_l799, e_l804, e_l1000, e_l2000, e_l2412, e_l100000, e_m1, nI_add, ni_mul, ni_sub, nI_clamp, e_ltT, e_ltF, e_leT, e_leF, e_eqT, e_eqF, e_mE, e_Em, e_mlt, e_mle, e_ltm, e_lem, e_gz, e_gt, e_bs, ite_self, e_el, e_er, tq_get, tq_set, tq_inc, tb_get_neg, tb_set_neg, and_true, true_and, and_false, false_and, not_false_eq_true, not_true_eq_false] <;> rfl
  · rw [if_neg q]
    simp (disch := omega) only [sX0_byteAt, c_within, ↓reduceIte, e_lt, e_bd, e_grd, e_clamp, e_l0, e_l1, e_l2, e_l3, e_l4, e_l5, e_l6, e_l7, e_l8, e_l9, e_l10, e_l12, e_l13, e_l20, e_l31, e_l32, e_l45, e_l48, e_l50, e_l57, e_l58, e_l59, e_l64, e_l70, e_l100, e_l106, e_l127, e_l138, e_l554, e_l799, e_l804, e_l1000, e_l2000, e_l2412, e_l100000, e_m1, nI_add, ni_mul, ni_sub, nI_clamp, e_ltT, e_ltF, e_leT, e_leF, e_eqT, e_eqF, e_mE, e_Em, e_mlt, e_mle, e_ltm, e_lem, e_gz, e_gt, e_bs, ite_self, e_el, e_er, tq_get, tq_set, tq_inc, tb_get_neg, tb_set_neg, and_true, true_and, and_false, false_and, not_false_eq_true, not_true_eq_false] <;> rfl
theorem m_here {pl : Nat} (h : TXT f tx L) (hi : pl ≤ 200) : sX11_here ((804, g), (n2, sv), sm, thr, (100, tx), nI L, nI pl, (36, rd), rm, so, wr, fo, (n5, bf), la) = some (btx tx L pl) := by
  unfold btx
  have hL := h.1
  by_cases q : pl < L
  · rw [if_pos q]
    simp (disch := omega) only [sX11_here, ↓reduceIte, e_lt, e_bd, e_grd, e_clamp, e_l0, e_l1, e_l2, e_l3, e_l4, e_l5, e_l6, e_l7, e_l8, e_l9, e_l10, e_l12, e_l13, e_l20, e_l31, e_l32, e_l45, e_l48, e_l50, e_l57, e_l58, e_l59, e_l64, e_l70, e_l100, e_l106, e_l127, e_l138, e_l554, e_l799, e_l804, e_l1000, e_l2000, e_l2412, e_l100000, e_m1, nI_add, ni_mul, ni_sub, nI_clamp, e_ltT, e_ltF, e_leT, e_leF, e_eqT, e_eqF, e_mE, e_Em, e_mlt, e_mle, e_ltm, e_lem, e_gz, e_gt, e_bs, ite_self, e_el, e_er, tq_get, tq_set, tq_inc, tb_get_neg, tb_set_neg, and_true, true_and, and_false, false_and, not_false_eq_true, not_true_eq_false] <;> rfl
  · rw [if_neg q]
    simp (disch := omega) only [sX11_here, ↓reduceIte, e_lt, e_bd, e_grd, e_clamp, e_l0, e_l1, e_l2, e_l3, e_l4, e_l5, e_l6, e_l7, e_l8, e_l9, e_l10, e_l12, e_l13, e_l20, e_l31, e_l32, e_l45, e_l48, e_l50, e_l57, e_l58, e_l59, e_l64, e_l70, e_l100, e_l106, e_l127, e_l138, e_l554, e_l799, e_l804, e_l1000, e_l2000, e_l2412, e_l100000, e_m1, nI_add, ni_mul, ni_sub, nI_clamp, e_ltT, e_ltF, e_leT, e_leF, e_eqT, e_eqF, e_mE, e_Em, e_mlt, e_mle, e_ltm, e_lem, e_gz, e_gt, e_bs, ite_self, e_el, e_er, tq_get, tq_set, tq_inc, tb_get_neg, tb_set_neg, and_true, true_and, and_false, false_and, not_false_eq_true, not_true_eq_false] <;> rfl
theorem c_dig1 (h : TXT f tx L) {i : Nat} (hi : i ≤ 200) (hd : dgx tx L i) (dr : V5) (p e : Int32) : sX6_isDigit (((100, f), nI L), dr, p, e) (nI i) = some (nI 1) := by
  have hb := c_by h hi
  obtain ⟨-, c, c1, c2, c3⟩ := dg_of h hd
  rw [c3] at hb
  simp (disch := omega) only [sX6_isDigit, hb, ↓reduceIte, e_lt, e_bd, e_grd, e_clamp, e_l0, e_l1, e_l2, e_l3, e_l4, e_l5, e_l6, e_l7, e_l8, e_l9, e_l10, e_l12, e_l13, e_l20, e_l31, e_l32, e_l45, e_l48, e_l50, e_l57, e_l58, e_l59, e_l64, e_l70, e_l100, e_l106, e_l127, e_l138, e_l554, e_l799, e_l804, e_l1000, e_l2000, e_l2412, e_l100000, e_m1, nI_add, ni_mul, ni_sub, nI_clamp, e_ltT, e_ltF, e_leT, e_leF, e_eqT, e_eqF, e_mE, e_Em, e_mlt, e_mle, e_ltm, e_lem, e_gz, e_gt, e_bs, ite_self, e_el, e_er, tq_get, tq_set, tq_inc, tb_get_neg, tb_set_neg, and_true, true_and, and_false, false_and, not_false_eq_true, not_true_eq_false] <;> rfl
theorem c_dig0 (h : TXT f tx L) {i : Nat} (hi : i ≤ 200) (hd : ¬ dgx tx L i) (dr : V5) (p e : Int32) : sX6_isDigit (((100, f), nI L), dr, p, e) (nI i) = some (nI 0) := by
  have hb := c_by h hi
  unfold dgx at hd
  by_cases q : btx tx L i < nI 48
  · simp (disch := omega) only [sX6_isDigit, hb, q, ↓reduceIte, e_lt, e_bd, e_grd, e_clamp, e_l0, e_l1, e_l2, e_l3, e_l4, e_l5, e_l6, e_l7, e_l8, e_l9, e_l10, e_l12, e_l13, e_l20, e_l31, e_l32, e_l45, e_l48, e_l50, e_l57, e_l58, e_l59, e_l64, e_l70, e_l100, e_l106, e_l127, e_l138, e_l554, e_l799, e_l804, e_l1000, e_l2000, e_l2412, e_l100000, e_m1, nI_add, ni_mul, ni_sub, nI_clamp, e_ltT, e_ltF, e_leT, e_leF, e_eqT, e_eqF, e_mE, e_Em, e_mlt, e_mle, e_ltm, e_lem, e_gz, e_gt, e_bs, ite_self, e_el, e_er, tq_get, tq_set, tq_inc, tb_get_neg, tb_set_neg, and_true, true_and, and_false, false_and, not_false_eq_true, not_true_eq_false] <;> rfl
  · have q2 : nI 57 < btx tx L i := fa_of_nle (fun z => hd ⟨fa_of_nlt q, z⟩)
    simp (disch := omega) only [sX6_isDigit, hb, q, q2, ↓reduceIte, e_lt, e_bd, e_grd, e_clamp, e_l0, e_l1, e_l2, e_l3, e_l4, e_l5, e_l6, e_l7, e_l8, e_l9, e_l10, e_l12, e_l13, e_l20, e_l31, e_l32, e_l45, e_l48, e_l50, e_l57, e_l58, e_l59, e_l64, e_l70, e_l100, e_l106, e_l127, e_l138, e_l554, e_l799, e_l804, e_l1000, e_l2000, e_l2412, e_l100000, e_m1, nI_add, ni_mul, ni_sub, nI_clamp, e_ltT, e_ltF, e_leT, e_leF, e_eqT, e_eqF, e_mE, e_Em, e_mlt, e_mle, e_ltm, e_lem, e_gz, e_gt, e_bs, ite_self, e_el, e_er, tq_get, tq_set, tq_inc, tb_get_neg, tb_set_neg, and_true, true_and, and_false, false_and, not_false_eq_true, not_true_eq_false] <;> rfl
theorem m_dig1 {x : Int32} (hd : nI 48 ≤ x ∧ x ≤ nI 57) : sX11_isFigure x = some (nI 1) := by
  rw [m_isF, if_pos hd]
theorem m_dig0 {x : Int32} (hd : ¬ (nI 48 ≤ x ∧ x ≤ nI 57)) : sX11_isFigure x = some (nI 0) := by
  rw [m_isF, if_neg hd]
/-- behind an error: reading goes on, and the error stays -/
theorem c_numT (h : TXT f tx L) {i q : Nat} (hi : i ≤ L) (hq : q ≤ 200) (lo hh : Int32) (dr : V5) : ∃ val i', i' ≤ L ∧ sX6_readNumber (((100, f), nI L), dr, nI i, nI q) lo hh = some (val, (((100, f), nI L), dr, nI i', nI q)) := by
  have hL := h.1
  by_cases d0 : dgx tx L i
  · have x0 := c_dig1 h (show i ≤ 200 by omega) d0
    have b0 := c_by h (show i ≤ 200 by omega)
    obtain ⟨l0, c0, -, -, e0⟩ := dg_of h d0
    by_cases d1 : dgx tx L (i + 1)
    · have x1 := c_dig1 h (show i + 1 ≤ 200 by omega) d1
      have b1 := c_by h (show i + 1 ≤ 200 by omega)
      obtain ⟨l1, c1, -, -, e1⟩ := dg_of h d1
      refine ⟨nI 10 * (btx tx L i - nI 48) + (btx tx L (i + 1) - nI 48), i + 1 + 1, by omega, ?_⟩
      by_cases d2 : dgx tx L (i + 1 + 1)
      · have x2 := c_dig1 h (show i + 1 + 1 ≤ 200 by omega) d2
        simp (disch := omega) only [sX6_readNumber, sX6_readDigit, sX6_fail, x0, x1, x2, b0, b1, ↓reduceIte, e_lt, e_bd, e_grd, e_clamp, e_l0, e_l1, e_l2, e_l3, e_l4, e_l5, e_l6, e_l7, e_l8, e_l9, e_l10, e_l12, e_l13, e_l20, e_l31, e_l32, e_l45, e_l48, e_l50, e_l57, e_l58, e_l59, e_l64, e_l70, e_l100, e_l106, e_l127, e_l138, e_l554, e_l799, e_l804, e_l1000, e_l2000, e_l2412, e_l100000, e_m1, nI_add, ni_mul, ni_sub, nI_clamp, e_ltT, e_ltF, e_leT, e_leF, e_eqT, e_eqF, e_mE, e_Em, e_mlt, e_mle, e_ltm, e_lem, e_gz, e_gt, e_bs, ite_self, e_el, e_er, tq_get, tq_set, tq_inc, tb_get_neg, tb_set_neg, and_true, true_and, and_false, false_and, not_false_eq_true, not_true_eq_false] <;> rfl
      · have x2 := c_dig0 h (show i + 1 + 1 ≤ 200 by omega) d2
        simp (disch := omega) only [sX6_readNumber, sX6_readDigit, sX6_fail, x0, x1, x2, b0, b1, ↓reduceIte, e_lt, e_bd, e_grd, e_clamp, e_l0, e_l1, e_l2, e_l3, e_l4, e_l5, e_l6, e_l7, e_l8, e_l9, e_l10, e_l12, e_l13, e_l20, e_l31, e_l32, e_l45, e_l48, e_l50, e_l57, e_l58, e_l59, e_l64, e_l70, e_l100, e_l106, e_l127, e_l138, e_l554, e_l799, e_l804, e_l1000, e_l2000, e_l2412, e_l100000, e_m1, nI_add, ni_mul, ni_sub, nI_clamp, e_ltT, e_ltF, e_leT, e_leF, e_eqT, e_eqF, e_mE, e_Em, e_mlt, e_mle, e_ltm, e_lem, e_gz, e_gt, e_bs, ite_self, e_el, e_er, tq_get, tq_set, tq_inc, tb_get_neg, tb_set_neg, and_true, true_and, and_false, false_and, not_false_eq_true, not_true_eq_false] <;> rfl
    · have x1 := c_dig0 h (show i + 1 ≤ 200 by omega) d1
      refine ⟨btx tx L i - nI 48, i + 1, by omega, ?_⟩
      simp (disch := omega) only [sX6_readNumber, sX6_readDigit, sX6_fail, x0, x1, b0, ↓reduceIte, e_lt, e_bd, e_grd, e_clamp, e_l0, e_l1, e_l2, e_l3, e_l4, e_l5, e_l6, e_l7, e_l8, e_l9, e_l10, e_l12, e_l13, e_l20, e_l31, e_l32, e_l45, e_l48, e_l50, e_l57, e_l58, e_l59, e_l64, e_l70, e_l100, e_l106, e_l127, e_l138, e_l554, e_l799, e_l804, e_l1000, e_l2000, e_l2412, e_l100000, e_m1, nI_add, ni_mul, ni_sub, nI_clamp, e_ltT, e_ltF, e_leT, e_leF, e_eqT, e_eqF, e_mE, e_Em, e_mlt, e_mle, e_ltm, e_lem, e_gz, e_gt, e_bs, ite_self, e_el, e_er, tq_get, tq_set, tq_inc, tb_get_neg, tb_set_neg, and_true, true_and, and_false, false_and, not_false_eq_true, not_true_eq_false] <;> rfl
  · have x0 := c_dig0 h (show i ≤ 200 by omega) d0
    refine ⟨m1, i, hi, ?_⟩
    simp (disch := omega) only [sX6_readNumber, sX6_fail, x0, ↓reduceIte, e_lt, e_bd, e_grd, e_clamp, e_l0, e_l1, e_l2, e_l3, e_l4, e_l5, e_l6, e_l7, e_l8, e_l9, e_l10, e_l12, e_l13, e_l20, e_l31, e_l32, e_l45, e_l48, e_l50, e_l57, e_l58, e_l59, e_l64, e_l70, e_l100, e_l106, e_l127, e_l138, e_l554, e_l799, e_l804, e_l1000, e_l2000, e_l2412, e_l100000, e_m1, nI_add, ni_mul, ni_sub, nI_clamp, e_ltT, e_ltF, e_leT, e_leF, e_eqT, e_eqF, e_mE, e_Em, e_mlt, e_mle, e_ltm, e_lem, e_gz, e_gt, e_bs, ite_self, e_el, e_er, tq_get, tq_set, tq_inc, tb_get_neg, tb_set_neg, and_true, true_and, and_false, false_and, not_false_eq_true, not_true_eq_false] <;> rfl
theorem c_sgnT (h : TXT f tx L) {i q : Nat} (hi : i ≤ L) (hq : q ≤ 200) {k : Nat} (hk : k < 128) (dr : V5) : ∃ i', i' ≤ L ∧ sX6_readSign (((100, f), nI L), dr, nI i, nI q) (nI k) = some (((100, f), nI L), dr, nI i', nI q) := by
  have hL := h.1
  have b0 := c_by h (show i ≤ 200 by omega)
  by_cases e : btx tx L i = nI k
  · have : i < L := by
      rcases bt_cases h i with ⟨q, -⟩ | ⟨-, q⟩
      · exact q
      · rw [q, e_Em (by omega)] at e
        exact e.elim
    refine ⟨i + 1, by omega, ?_⟩
    simp (disch := omega) only [sX6_readSign, b0, e, ↓reduceIte, e_lt, e_bd, e_grd, e_clamp, e_l0, e_l1, e_l2, e_l3, e_l4, e_l5, e_l6, e_l7, e_l8, e_l9, e_l10, e_l12, e_l13, e_l20, e_l31, e_l32, e_l45, e_l48, e_l50, e_l57, e_l58, e_l59, e_l64, e_l70, e_l100, e_l106, e_l127, e_l138, e_l554, e_l799, e_l804, e_l1000, e_l2000, e_l2412, e_l100000, e_m1, nI_add, ni_mul, ni_sub, nI_clamp, e_ltT, e_ltF, e_leT, e_leF, e_eqT, e_eqF, e_mE, e_Em, e_mlt, e_mle, e_ltm, e_lem, e_gz, e_gt, e_bs, ite_self, e_el, e_er, tq_get, tq_set, tq_inc, tb_get_neg, tb_set_neg, and_true, true_and, and_false, false_and, not_false_eq_true, not_true_eq_false] <;> rfl
  · refine ⟨i, hi, ?_⟩
    simp (disch := omega) only [sX6_readSign, sX6_fail, b0, e, ↓reduceIte, e_lt, e_bd, e_grd, e_clamp, e_l0, e_l1, e_l2, e_l3, e_l4, e_l5, e_l6, e_l7, e_l8, e_l9, e_l10, e_l12, e_l13, e_l20, e_l31, e_l32, e_l45, e_l48, e_l50, e_l57, e_l58, e_l59, e_l64, e_l70, e_l100, e_l106, e_l127, e_l138, e_l554, e_l799, e_l804, e_l1000, e_l2000, e_l2412, e_l100000, e_m1, nI_add, ni_mul, ni_sub, nI_clamp, e_ltT, e_ltF, e_leT, e_leF, e_eqT, e_eqF, e_mE, e_Em, e_mlt, e_mle, e_ltm, e_lem, e_gz, e_gt, e_bs, ite_self, e_el, e_er, tq_get, tq_set, tq_inc, tb_get_neg, tb_set_neg, and_true, true_and, and_false, false_and, not_false_eq_true, not_true_eq_false] <;> rfl
/-- a number: both read it, or both stop there -/
theorem num_both (h : TXT f tx L) {N i a b : Nat} (hN : 5000 ≤ N) (hi : i ≤ L) (ha : a ≤ 100) (hb : b ≤ 100) (dr : V5) (rd : Nat → Int32) (rm : Int32) :
    (∃ v i', a ≤ v ∧ v ≤ b ∧ i < i' ∧ i' ≤ L ∧ sX6_readNumber (((100, f), nI L), dr, nI i, m1) (nI a) (nI b) = some (nI v, (((100, f), nI L), dr, nI i', m1)) ∧ sX11_number N ((804, g), (n2, sv), sm, thr, (100, tx), nI L, nI i, (36, rd), rm, so, wr, fo, (n5, bf), la) (nI a) (nI b) = some (nI v, ((804, g), (n2, sv), sm, thr, (100, tx), nI L, nI i', (36, rd), rm, so, wr, fo, (n5, bf), la))) ∨
    (∃ val i' r, i' ≤ L ∧ r ≤ L ∧ sX6_readNumber (((100, f), nI L), dr, nI i, m1) (nI a) (nI b) = some (val, (((100, f), nI L), dr, nI i', nI r)) ∧ sX11_number N ((804, g), (n2, sv), sm, thr, (100, tx), nI L, nI i, (36, rd), rm, so, wr, fo, (n5, bf), la) (nI a) (nI b) = some (m1, ((804, g), (n2, sv), sm, thr, (100, tx), nI L, nI r, (36, rd), rm, so, wr, fo, (n5, bf), la))) := by
  have hL := h.1
  obtain ⟨N, rfl⟩ : ∃ N', N = N' + 3 := ⟨N - 3, by omega⟩
  have p0 := m_here (g := g) (sv := sv) (rd := rd) (bf := bf) (n2 := n2) (n5 := n5) (sm := sm) (thr := thr) (rm := rm) (so := so) (wr := wr) (fo := fo) (la := la) (pl := i) h (by omega)
  have p1 := m_here (g := g) (sv := sv) (rd := rd) (bf := bf) (n2 := n2) (n5 := n5) (sm := sm) (thr := thr) (rm := rm) (so := so) (wr := wr) (fo := fo) (la := la) (pl := i + 1) h (by omega)
  have p2 := m_here (g := g) (sv := sv) (rd := rd) (bf := bf) (n2 := n2) (n5 := n5) (sm := sm) (thr := thr) (rm := rm) (so := so) (wr := wr) (fo := fo) (la := la) (pl := i + 1 + 1) h (by omega)
  have s2 : i + 1 + 1 - i = 2 := by omega
  have s1 : i + 1 - i = 1 := by omega
  by_cases d0 : dgx tx L i
  · have x0 := c_dig1 h (show i ≤ 200 by omega) d0
    have y0 := m_dig1 d0
    have b0 := c_by h (show i ≤ 200 by omega)
    obtain ⟨l0, c0, k0, k0', e0⟩ := dg_of h d0
    rw [e0] at b0 p0 y0
    by_cases d1 : dgx tx L (i + 1)
    · have x1 := c_dig1 h (show i + 1 ≤ 200 by omega) d1
      have y1 := m_dig1 d1
      have b1 := c_by h (show i + 1 ≤ 200 by omega)
      obtain ⟨l1, c1, k1, k1', e1⟩ := dg_of h d1
      rw [e1] at b1 p1 y1
      have ev : 10 * (c0 - 48) + c1 - 48 = 10 * (c0 - 48) + (c1 - 48) := by omega
      have ev0 : 10 * 0 + c0 - 48 = c0 - 48 := by omega
      by_cases d2 : dgx tx L (i + 1 + 1)
      · have x2 := c_dig1 h (show i + 1 + 1 ≤ 200 by omega) d2
        have y2 := m_dig1 d2
        refine Or.inr ⟨nI (10 * (c0 - 48) + (c1 - 48)), i + 1 + 1, i + 1 + 1, by omega, by omega, ?_, ?_⟩
        · by_cases z : 10 * (c0 - 48) + (c1 - 48) < a
          · simp (disch := omega) only [sX6_readNumber, sX6_readDigit, sX6_fail, x0, x1, x2, b0, b1, ↓reduceIte, e_lt, e_bd, e_grd, e_clamp, e_l0, e_l1, e_l2, e_l3, e_l4, e_l5, e_l6, e_l7, e_l8, e_l9, e_l10, e_l12, e_l13, e_l20, e_l31, e_l32, e_l45, e_l48, e_l50, e_l57, e_l58, e_l59, e_l64, e_l70, e_l100, e_l106, e_l127, e_l138, e_l554, e_l799, e_l804, e_l1000, e_l2000, e_l2412, e_l100000, e_m1, nI_add, ni_mul, ni_sub, nI_clamp, e_ltT, e_ltF, e_leT, e_leF, e_eqT, e_eqF, e_mE, e_Em, e_mlt, e_mle, e_ltm, e_lem, e_gz, e_gt, e_bs, ite_self, e_el, e_er, tq_get, tq_set, tq_inc, tb_get_neg, tb_set_neg, and_true, true_and, and_false, false_and, not_false_eq_true, not_true_eq_false] <;> rfl
          · by_cases z2 : 10 * (c0 - 48) + (c1 - 48) ≤ b
            · simp (disch := omega) only [sX6_readNumber, sX6_readDigit, sX6_fail, x0, x1, x2, b0, b1, ↓reduceIte, e_lt, e_bd, e_grd, e_clamp, e_l0, e_l1, e_l2, e_l3, e_l4, e_l5, e_l6, e_l7, e_l8, e_l9, e_l10, e_l12, e_l13, e_l20, e_l31, e_l32, e_l45, e_l48, e_l50, e_l57, e_l58, e_l59, e_l64, e_l70, e_l100, e_l106, e_l127, e_l138, e_l554, e_l799, e_l804, e_l1000, e_l2000, e_l2412, e_l100000, e_m1, nI_add, ni_mul, ni_sub, nI_clamp, e_ltT, e_ltF, e_leT, e_leF, e_eqT, e_eqF, e_mE, e_Em, e_mlt, e_mle, e_ltm, e_lem, e_gz, e_gt, e_bs, ite_self, e_el, e_er, tq_get, tq_set, tq_inc, tb_get_neg, tb_set_neg, and_true, true_and, and_false, false_and, not_false_eq_true, not_true_eq_false] <;> rfl
            · simp (disch := omega) only [sX6_readNumber, sX6_readDigit, sX6_fail, x0, x1, x2, b0, b1, ↓reduceIte, e_lt, e_bd, e_grd, e_clamp, e_l0, e_l1, e_l2, e_l3, e_l4, e_l5, e_l6, e_l7, e_l8, e_l9, e_l10, e_l12, e_l13, e_l20, e_l31, e_l32, e_l45, e_l48, e_l50, e_l57, e_l58, e_l59, e_l64, e_l70, e_l100, e_l106, e_l127, e_l138, e_l554, e_l799, e_l804, e_l1000, e_l2000, e_l2412, e_l100000, e_m1, nI_add, ni_mul, ni_sub, nI_clamp, e_ltT, e_ltF, e_leT, e_leF, e_eqT, e_eqF, e_mE, e_Em, e_mlt, e_mle, e_ltm, e_lem, e_gz, e_gt, e_bs, ite_self, e_el, e_er, tq_get, tq_set, tq_inc, tb_get_neg, tb_set_neg, and_true, true_and, and_false, false_and, not_false_eq_true, not_true_eq_false] <;> rfl
        · simp (disch := omega) only [sX11_number, qX11_number_8, p0, y0, p1, y1, p2, y2, s1, s2, ↓reduceIte, e_lt, e_bd, e_grd, e_clamp, e_l0, e_l1, e_l2, e_l3, e_l4, e_l5, e_l6, e_l7, e_l8, e_l9, e_l10, e_l12, e_l13, e_l20, e_l31, e_l32, e_l45, e_l48, e_l50, e_l57, e_l58, e_l59, e_l64, e_l70, e_l100, e_l106, e_l127, e_l138, e_l554, e_l799, e_l804, e_l1000, e_l2000, e_l2412, e_l100000, e_m1, nI_add, ni_mul, ni_sub, nI_clamp, e_ltT, e_ltF, e_leT, e_leF, e_eqT, e_eqF, e_mE, e_Em, e_mlt, e_mle, e_ltm, e_lem, e_gz, e_gt, e_bs, ite_self, e_el, e_er, tq_get, tq_set, tq_inc, tb_get_neg, tb_set_neg, and_true, true_and, and_false, false_and, not_false_eq_true, not_true_eq_false] <;> rfl
      · have x2 := c_dig0 h (show i + 1 + 1 ≤ 200 by omega) d2
        have y2 := m_dig0 d2
        by_cases z : 10 * (c0 - 48) + (c1 - 48) < a
        · refine Or.inr ⟨nI (10 * (c0 - 48) + (c1 - 48)), i + 1 + 1, i, by omega, by omega, ?_, ?_⟩
          · simp (disch := omega) only [sX6_readNumber, sX6_readDigit, sX6_fail, x0, x1, x2, b0, b1, ↓reduceIte, e_lt, e_bd, e_grd, e_clamp, e_l0, e_l1, e_l2, e_l3, e_l4, e_l5, e_l6, e_l7, e_l8, e_l9, e_l10, e_l12, e_l13, e_l20, e_l31, e_l32, e_l45, e_l48, e_l50, e_l57, e_l58, e_l59, e_l64, e_l70, e_l100, e_l106, e_l127, e_l138, e_l554, e_l799, e_l804, e_l1000, e_l2000, e_l2412, e_l100000, e_m1, nI_add, ni_mul, ni_sub, nI_clamp, e_ltT, e_ltF, e_leT, e_leF, e_eqT, e_eqF, e_mE, e_Em, e_mlt, e_mle, e_ltm, e_lem, e_gz, e_gt, e_bs, ite_self, e_el, e_er, tq_get, tq_set, tq_inc, tb_get_neg, tb_set_neg, and_true, true_and, and_false, false_and, not_false_eq_true, not_true_eq_false] <;> rfl
          · simp (disch := omega) only [sX11_number, qX11_number_8, p0, y0, p1, y1, p2, y2, m_in, ev0, ev, ↓reduceIte, e_lt, e_bd, e_grd, e_clamp, e_l0, e_l1, e_l2, e_l3, e_l4, e_l5, e_l6, e_l7, e_l8, e_l9, e_l10, e_l12, e_l13, e_l20, e_l31, e_l32, e_l45, e_l48, e_l50, e_l57, e_l58, e_l59, e_l64, e_l70, e_l100, e_l106, e_l127, e_l138, e_l554, e_l799, e_l804, e_l1000, e_l2000, e_l2412, e_l100000, e_m1, nI_add, ni_mul, ni_sub, nI_clamp, e_ltT, e_ltF, e_leT, e_leF, e_eqT, e_eqF, e_mE, e_Em, e_mlt, e_mle, e_ltm, e_lem, e_gz, e_gt, e_bs, ite_self, e_el, e_er, tq_get, tq_set, tq_inc, tb_get_neg, tb_set_neg, and_true, true_and, and_false, false_and, not_false_eq_true, not_true_eq_false] <;> rfl
        · by_cases z2 : 10 * (c0 - 48) + (c1 - 48) ≤ b
          · refine Or.inl ⟨10 * (c0 - 48) + (c1 - 48), i + 1 + 1, by omega, z2, by omega, by omega, ?_, ?_⟩
            · simp (disch := omega) only [sX6_readNumber, sX6_readDigit, sX6_fail, x0, x1, x2, b0, b1, ↓reduceIte, e_lt, e_bd, e_grd, e_clamp, e_l0, e_l1, e_l2, e_l3, e_l4, e_l5, e_l6, e_l7, e_l8, e_l9, e_l10, e_l12, e_l13, e_l20, e_l31, e_l32, e_l45, e_l48, e_l50, e_l57, e_l58, e_l59, e_l64, e_l70, e_l100, e_l106, e_l127, e_l138, e_l554, e_l799, e_l804, e_l1000, e_l2000, e_l2412, e_l100000, e_m1, nI_add, ni_mul, ni_sub, nI_clamp, e_ltT, e_ltF, e_leT, e_leF, e_eqT, e_eqF, e_mE, e_Em, e_mlt, e_mle, e_ltm, e_lem, e_gz, e_gt, e_bs, ite_self, e_el, e_er, tq_get, tq_set, tq_inc, tb_get_neg, tb_set_neg, and_true, true_and, and_false, false_and, not_false_eq_true, not_true_eq_false] <;> rfl
            · simp (disch := omega) only [sX11_number, qX11_number_8, p0, y0, p1, y1, p2, y2, m_in, ev0, ev, ↓reduceIte, e_lt, e_bd, e_grd, e_clamp, e_l0, e_l1, e_l2, e_l3, e_l4, e_l5, e_l6, e_l7, e_l8, e_l9, e_l10, e_l12, e_l13, e_l20, e_l31, e_l32, e_l45, e_l48, e_l50, e_l57, e_l58, e_l59, e_l64, e_l70, e_l100, e_l106, e_l127, e_l138, e_l554, e_l799, e_l804, e_l1000, e_l2000, e_l2412, e_l100000, e_m1, nI_add, ni_mul, ni_sub, nI_clamp, e_ltT, e_ltF, e_leT, e_leF, e_eqT, e_eqF, e_mE, e_Em, e_mlt, e_mle, e_ltm, e_lem, e_gz, e_gt, e_bs, ite_self, e_el, e_er, tq_get, tq_set, tq_inc, tb_get_neg, tb_set_neg, and_true, true_and, and_false, false_and, not_false_eq_true, not_true_eq_false] <;> rfl
          · refine Or.inr ⟨nI (10 * (c0 - 48) + (c1 - 48)), i + 1 + 1, i, by omega, by omega, ?_, ?_⟩
            · simp (disch := omega) only [sX6_readNumber, sX6_readDigit, sX6_fail, x0, x1, x2, b0, b1, ↓reduceIte, e_lt, e_bd, e_grd, e_clamp, e_l0, e_l1, e_l2, e_l3, e_l4, e_l5, e_l6, e_l7, e_l8, e_l9, e_l10, e_l12, e_l13, e_l20, e_l31, e_l32, e_l45, e_l48, e_l50, e_l57, e_l58, e_l59, e_l64, e_l70, e_l100, e_l106, e_l127, e_l138, e_l554, e_l799, e_l804, e_l1000, e_l2000, e_l2412, e_l100000, e_m1, nI_add, ni_mul, ni_sub, nI_clamp, e_ltT, e_ltF, e_leT, e_leF, e_eqT, e_eqF, e_mE, e_Em, e_mlt, e_mle, e_ltm, e_lem, e_gz, e_gt, e_bs, ite_self, e_el, e_er, tq_get, tq_set, tq_inc, tb_get_neg, tb_set_neg, and_true, true_and, and_false, false_and, not_false_eq_true, not_true_eq_false] <;> rfl
            · simp (disch := omega) only [sX11_number, qX11_number_8, p0, y0, p1, y1, p2, y2, m_in, ev0, ev, ↓reduceIte, e_lt, e_bd, e_grd, e_clamp, e_l0, e_l1, e_l2, e_l3, e_l4, e_l5, e_l6, e_l7, e_l8, e_l9, e_l10, e_l12, e_l13, e_l20, e_l31, e_l32, e_l45, e_l48, e_l50, e_l57, e_l58, e_l59, e_l64, e_l70, e_l100, e_l106, e_l127, e_l138, e_l554, e_l799, e_l804, e_l1000, e_l2000, e_l2412, e_l100000, e_m1, nI_add, ni_mul, ni_sub, nI_clamp, e_ltT, e_ltF, e_leT, e_leF, e_eqT, e_eqF, e_mE, e_Em, e_mlt, e_mle, e_ltm, e_lem, e_gz, e_gt, e_bs, ite_self, e_el, e_er, tq_get, tq_set, tq_inc, tb_get_neg, tb_set_neg, and_true, true_and, and_false, false_and, not_false_eq_true, not_true_eq_false] <;> rfl
    · have x1 := c_dig0 h (show i + 1 ≤ 200 by omega) d1
      have y1 := m_dig0 d1
      have ev0 : 10 * 0 + c0 - 48 = c0 - 48 := by omega
      by_cases z : c0 - 48 < a
      · refine Or.inr ⟨nI (c0 - 48), i + 1, i, by omega, by omega, ?_, ?_⟩
        · simp (disch := omega) only [sX6_readNumber, sX6_readDigit, sX6_fail, x0, x1, b0, ↓reduceIte, e_lt, e_bd, e_grd, e_clamp, e_l0, e_l1, e_l2, e_l3, e_l4, e_l5, e_l6, e_l7, e_l8, e_l9, e_l10, e_l12, e_l13, e_l20, e_l31, e_l32, e_l45, e_l48, e_l50, e_l57, e_l58, e_l59, e_l64, e_l70, e_l100, e_l106, e_l127, e_l138, e_l554, e_l799, e_l804, e_l1000, e_l2000, e_l2412, e_l100000, e_m1, nI_add, ni_mul, ni_sub, nI_clamp, e_ltT, e_ltF, e_leT, e_leF, e_eqT, e_eqF, e_mE, e_Em, e_mlt, e_mle, e_ltm, e_lem, e_gz, e_gt, e_bs, ite_self, e_el, e_er, tq_get, tq_set, tq_inc, tb_get_neg, tb_set_neg, and_true, true_and, and_false, false_and, not_false_eq_true, not_true_eq_false] <;> rfl
        · simp (disch := omega) only [sX11_number, qX11_number_8, p0, y0, p1, y1, m_in, ev0, ↓reduceIte, e_lt, e_bd, e_grd, e_clamp, e_l0, e_l1, e_l2, e_l3, e_l4, e_l5, e_l6, e_l7, e_l8, e_l9, e_l10, e_l12, e_l13, e_l20, e_l31, e_l32, e_l45, e_l48, e_l50, e_l57, e_l58, e_l59, e_l64, e_l70, e_l100, e_l106, e_l127, e_l138, e_l554, e_l799, e_l804, e_l1000, e_l2000, e_l2412, e_l100000, e_m1, nI_add, ni_mul, ni_sub, nI_clamp, e_ltT, e_ltF, e_leT, e_leF, e_eqT, e_eqF, e_mE, e_Em, e_mlt, e_mle, e_ltm, e_lem, e_gz, e_gt, e_bs, ite_self, e_el, e_er, tq_get, tq_set, tq_inc, tb_get_neg, tb_set_neg, and_true, true_and, and_false, false_and, not_false_eq_true, not_true_eq_false] <;> rfl
      · by_cases z2 : c0 - 48 ≤ b
        · refine Or.inl ⟨c0 - 48, i + 1, by omega, z2, by omega, by omega, ?_, ?_⟩
          · simp (disch := omega) only [sX6_readNumber, sX6_readDigit, sX6_fail, x0, x1, b0, ↓reduceIte, e_lt, e_bd, e_grd, e_clamp, e_l0, e_l1, e_l2, e_l3, e_l4, e_l5, e_l6, e_l7, e_l8, e_l9, e_l10, e_l12, e_l13, e_l20, e_l31, e_l32, e_l45, e_l48, e_l50, e_l57, e_l58, e_l59, e_l64, e_l70, e_l100, e_l106, e_l127, e_l138, e_l554, e_l799, e_l804, e_l1000, e_l2000, e_l2412, e_l100000, e_m1, nI_add, ni_mul, ni_sub, nI_clamp, e_ltT, e_ltF, e_leT, e_leF, e_eqT, e_eqF, e_mE, e_Em, e_mlt, e_mle, e_ltm, e_lem, e_gz, e_gt, e_bs, ite_self, e_el, e_er, tq_get, tq_set, tq_inc, tb_get_neg, tb_set_neg, and_true, true_and, and_false, false_and, not_false_eq_true, not_true_eq_false] <;> rfl
          · simp (disch := omega) only [sX11_number, qX11_number_8, p0, y0, p1, y1, m_in, ev0, ↓reduceIte, e_lt, e_bd, e_grd, e_clamp, e_l0, e_l1, e_l2, e_l3, e_l4, e_l5, e_l6, e_l7, e_l8, e_l9, e_l10, e_l12, e_l13, e_l20, e_l31, e_l32, e_l45, e_l48, e_l50, e_l57, e_l58, e_l59, e_l64, e_l70, e_l100, e_l106, e_l127, e_l138, e_l554, e_l799, e_l804, e_l1000, e_l2000, e_l2412, e_l100000, e_m1, nI_add, ni_mul, ni_sub, nI_clamp, e_ltT, e_ltF, e_leT, e_leF, e_eqT, e_eqF, e_mE, e_Em, e_mlt, e_mle, e_ltm, e_lem, e_gz, e_gt, e_bs, ite_self, e_el, e_er, tq_get, tq_set, tq_inc, tb_get_neg, tb_set_neg, and_true, true_and, and_false, false_and, not_false_eq_true, not_true_eq_false] <;> rfl
        · refine Or.inr ⟨nI (c0 - 48), i + 1, i, by omega, by omega, ?_, ?_⟩
          · simp (disch := omega) only [sX6_readNumber, sX6_readDigit, sX6_fail, x0, x1, b0, ↓reduceIte, e_lt, e_bd, e_grd, e_clamp, e_l0, e_l1, e_l2, e_l3, e_l4, e_l5, e_l6, e_l7, e_l8, e_l9, e_l10, e_l12, e_l13, e_l20, e_l31, e_l32, e_l45, e_l48, e_l50, e_l57, e_l58, e_l59, e_l64, e_l70, e_l100, e_l106, e_l127, e_l138, e_l554, e_l799, e_l804, e_l1000, e_l2000, e_l2412, e_l100000, e_m1, nI_add, ni_mul, ni_sub, nI_clamp, e_ltT, e_ltF, e_leT, e_leF, e_eqT, e_eqF, e_mE, e_Em, e_mlt, e_mle, e_ltm, e_lem, e_gz, e_gt, e_bs, ite_self, e_el, e_er, tq_get, tq_set, tq_inc, tb_get_neg, tb_set_neg, and_true, true_and, and_false, false_and, not_false_eq_true, not_true_eq_false] <;> rfl
          · simp (disch := omega) only [sX11_number, qX11_number_8, p0, y0, p1, y1, m_in, ev0, ↓reduceIte, e_lt, e_bd, e_grd, e_clamp, e_l0, e_l1, e_l2, e_l3, e_l4, e_l5, e_l6, e_l7, e_l8, e_l9, e_l10, e_l12, e_l13, e_l20, e_l31, e_l32, e_l45, e_l48, e_l50, e_l57, e_l58, e_l59, e_l64, e_l70, e_l100, e_l106, e_l127, e_l138, e_l554, e_l799, e_l804, e_l1000, e_l2000, e_l2412, e_l100000, e_m1, nI_add, ni_mul, ni_sub, nI_clamp, e_ltT, e_ltF, e_leT, e_leF, e_eqT, e_eqF, e_mE, e_Em, e_mlt, e_mle, e_ltm, e_lem, e_gz, e_gt, e_bs, ite_self, e_el, e_er, tq_get, tq_set, tq_inc, tb_get_neg, tb_set_neg, and_true, true_and, and_false, false_and, not_false_eq_true, not_true_eq_false] <;> rfl
  · have x0 := c_dig0 h (show i ≤ 200 by omega) d0
    have y0 := m_dig0 d0
    refine Or.inr ⟨m1, i, i, hi, hi, ?_, ?_⟩
    · simp (disch := omega) only [sX6_readNumber, sX6_fail, x0, ↓reduceIte, e_lt, e_bd, e_grd, e_clamp, e_l0, e_l1, e_l2, e_l3, e_l4, e_l5, e_l6, e_l7, e_l8, e_l9, e_l10, e_l12, e_l13, e_l20, e_l31, e_l32, e_l45, e_l48, e_l50, e_l57, e_l58, e_l59, e_l64, e_l70, e_l100, e_l106, e_l127, e_l138, e_l554, e_l799, e_l804, e_l1000, e_l2000, e_l2412, e_l100000, e_m1, nI_add, ni_mul, ni_sub, nI_clamp, e_ltT, e_ltF, e_leT, e_leF, e_eqT, e_eqF, e_mE, e_Em, e_mlt, e_mle, e_ltm, e_lem, e_gz, e_gt, e_bs, ite_self, e_el, e_er, tq_get, tq_set, tq_inc, tb_get_neg, tb_set_neg, and_true, true_and, and_false, false_and, not_false_eq_true, not_true_eq_false] <;> rfl
    · simp (disch := omega) only [sX11_number, qX11_number_8, p0, y0, ↓reduceIte, e_lt, e_bd, e_grd, e_clamp, e_l0, e_l1, e_l2, e_l3, e_l4, e_l5, e_l6, e_l7, e_l8, e_l9, e_l10, e_l12, e_l13, e_l20, e_l31, e_l32, e_l45, e_l48, e_l50, e_l57, e_l58, e_l59, e_l64, e_l70, e_l100, e_l106, e_l127, e_l138, e_l554, e_l799, e_l804, e_l1000, e_l2000, e_l2412, e_l100000, e_m1, nI_add, ni_mul, ni_sub, nI_clamp, e_ltT, e_ltF, e_leT, e_leF, e_eqT, e_eqF, e_mE, e_Em, e_mlt, e_mle, e_ltm, e_lem, e_gz, e_gt, e_bs, ite_self, e_el, e_er, tq_get, tq_set, tq_inc, tb_get_neg, tb_set_neg, and_true, true_and, and_false, false_and, not_false_eq_true, not_true_eq_false] <;> rfl
/-- a sign -/
theorem sgn_both (h : TXT f tx L) {i k : Nat} (hi : i ≤ L) (hk : k < 128) (dr : V5) (rd : Nat → Int32) (rm : Int32) :
    (i < L ∧ btx tx L i = nI k ∧ sX6_readSign (((100, f), nI L), dr, nI i, m1) (nI k) = some (((100, f), nI L), dr, nI (i + 1), m1) ∧ sX11_passes ((804, g), (n2, sv), sm, thr, (100, tx), nI L, nI i, (36, rd), rm, so, wr, fo, (n5, bf), la) (nI k) = some (nI 1, ((804, g), (n2, sv), sm, thr, (100, tx), nI L, nI (i + 1), (36, rd), rm, so, wr, fo, (n5, bf), la))) ∨
    (¬ btx tx L i = nI k ∧ sX6_readSign (((100, f), nI L), dr, nI i, m1) (nI k) = some (((100, f), nI L), dr, nI i, nI i) ∧ sX11_passes ((804, g), (n2, sv), sm, thr, (100, tx), nI L, nI i, (36, rd), rm, so, wr, fo, (n5, bf), la) (nI k) = some (nI 0, ((804, g), (n2, sv), sm, thr, (100, tx), nI L, nI i, (36, rd), rm, so, wr, fo, (n5, bf), la))) := by
  have hL := h.1
  have b0 := c_by h (show i ≤ 200 by omega)
  have p0 := m_here (g := g) (sv := sv) (rd := rd) (bf := bf) (n2 := n2) (n5 := n5) (sm := sm) (thr := thr) (rm := rm) (so := so) (wr := wr) (fo := fo) (la := la) (pl := i) h (by omega)
  have z1 : isz (nI 1) := rfl
  have z0 : isz (nI 0) := rfl
  have g1 : ∀ {α : Type} (K : Option α), grd (isz (nI 1)) K = K := fun K => grd_pos z1 K
  have g0 : ∀ {α : Type} (K : Option α), grd (isz (nI 0)) K = K := fun K => grd_pos z0 K
  by_cases e : btx tx L i = nI k
  · have : i < L := by
      rcases bt_cases h i with ⟨q, -⟩ | ⟨-, q⟩
      · exact q
      · rw [q, e_Em (by omega)] at e
        exact e.elim
    refine Or.inl ⟨this, e, ?_, ?_⟩
    · simp (disch := omega) only [sX6_readSign, b0, e, ↓reduceIte, e_lt, e_bd, e_grd, e_clamp, e_l0, e_l1, e_l2, e_l3, e_l4, e_l5, e_l6, e_l7, e_l8, e_l9, e_l10, e_l12, e_l13, e_l20, e_l31, e_l32, e_l45, e_l48, e_l50, e_l57, e_l58, e_l59, e_l64, e_l70, e_l100, e_l106, e_l127, e_l138, e_l554, e_l799, e_l804, e_l1000, e_l2000, e_l2412, e_l100000, e_m1, nI_add, ni_mul, ni_sub, nI_clamp, e_ltT, e_ltF, e_leT, e_leF, e_eqT, e_eqF, e_mE, e_Em, e_mlt, e_mle, e_ltm, e_lem, e_gz, e_gt, e_bs, ite_self, e_el, e_er, tq_get, tq_set, tq_inc, tb_get_neg, tb_set_neg, and_true, true_and, and_false, false_and, not_false_eq_true, not_true_eq_false] <;> rfl
    · simp (disch := omega) only [sX11_passes, p0, e, g1, ↓reduceIte, e_lt, e_bd, e_grd, e_clamp, e_l0, e_l1, e_l2, e_l3, e_l4, e_l5, e_l6, e_l7, e_l8, e_l9, e_l10, e_l12, e_l13, e_l20, e_l31, e_l32, e_l45, e_l48, e_l50, e_l57, e_l58, e_l59, e_l64, e_l70, e_l100, e_l106, e_l127, e_l138, e_l554, e_l799, e_l804, e_l1000, e_l2000, e_l2412, e_l100000, e_m1, nI_add, ni_mul, ni_sub, nI_clamp, e_ltT, e_ltF, e_leT, e_leF, e_eqT, e_eqF, e_mE, e_Em, e_mlt, e_mle, e_ltm, e_lem, e_gz, e_gt, e_bs, ite_self, e_el, e_er, tq_get, tq_set, tq_inc, tb_get_neg, tb_set_neg, and_true, true_and, and_false, false_and, not_false_eq_true, not_true_eq_false] <;> rfl
  · refine Or.inr ⟨e, ?_, ?_⟩
    · simp (disch := omega) only [sX6_readSign, sX6_fail, b0, e, ↓reduceIte, e_lt, e_bd, e_grd, e_clamp, e_l0, e_l1, e_l2, e_l3, e_l4, e_l5, e_l6, e_l7, e_l8, e_l9, e_l10, e_l12, e_l13, e_l20, e_l31, e_l32, e_l45, e_l48, e_l50, e_l57, e_l58, e_l59, e_l64, e_l70, e_l100, e_l106, e_l127, e_l138, e_l554, e_l799, e_l804, e_l1000, e_l2000, e_l2412, e_l100000, e_m1, nI_add, ni_mul, ni_sub, nI_clamp, e_ltT, e_ltF, e_leT, e_leF, e_eqT, e_eqF, e_mE, e_Em, e_mlt, e_mle, e_ltm, e_lem, e_gz, e_gt, e_bs, ite_self, e_el, e_er, tq_get, tq_set, tq_inc, tb_get_neg, tb_set_neg, and_true, true_and, and_false, false_and, not_false_eq_true, not_true_eq_false] <;> rfl
    · simp (disch := omega) only [sX11_passes, p0, e, g0, Nat.add_zero, ↓reduceIte, e_lt, e_bd, e_grd, e_clamp, e_l0, e_l1, e_l2, e_l3, e_l4, e_l5, e_l6, e_l7, e_l8, e_l9, e_l10, e_l12, e_l13, e_l20, e_l31, e_l32, e_l45, e_l48, e_l50, e_l57, e_l58, e_l59, e_l64, e_l70, e_l100, e_l106, e_l127, e_l138, e_l554, e_l799, e_l804, e_l1000, e_l2000, e_l2412, e_l100000, e_m1, nI_add, ni_mul, ni_sub, nI_clamp, e_ltT, e_ltF, e_leT, e_leF, e_eqT, e_eqF, e_mE, e_Em, e_mlt, e_mle, e_ltm, e_lem, e_gz, e_gt, e_bs, ite_self, e_el, e_er, tq_get, tq_set, tq_inc, tb_get_neg, tb_set_neg, and_true, true_and, and_false, false_and, not_false_eq_true, not_true_eq_false] <;> rfl
/-- spaces -/
theorem sp_both (h : TXT f tx L) (dr : V5) (e : Int32) (rd : Nat → Int32) (rm : Int32) : ∀ (d i : Nat), i + d = L → ∃ j, i ≤ j ∧ j ≤ L ∧ (∀ (p0 : Int32) (M : Nat), d < M → qX6_skipSpaces_0 (((100, f), nI L), dr, p0, e) M (nI i) = some (nI j)) ∧ ∀ (p0 : Int32) (M : Nat), d < M → qX11_skips_0 ((804, g), (n2, sv), sm, thr, (100, tx), nI L, p0, (36, rd), rm, so, wr, fo, (n5, bf), la) M (nI i) = some (nI j) := by
  have hL := h.1
  intro d
  induction d with
  | zero =>
    intro i hi
    have hb : btx tx L i = m1 := if_neg (by omega)
    have p0 := m_here (g := g) (sv := sv) (rd := rd) (bf := bf) (n2 := n2) (n5 := n5) (sm := sm) (thr := thr) (rm := rm) (so := so) (wr := wr) (fo := fo) (la := la) (pl := i) h (by omega)
    rw [hb] at p0
    refine ⟨i, by omega, by omega, ?_, ?_⟩
    · intro p M hM
      obtain ⟨M, rfl⟩ : ∃ M', M = M' + 1 := ⟨M - 1, by omega⟩
      simp (disch := omega) only [qX6_skipSpaces_0, ↓reduceIte, e_lt, e_bd, e_grd, e_clamp, e_l0, e_l1, e_l2, e_l3, e_l4, e_l5, e_l6, e_l7, e_l8, e_l9, e_l10, e_l12, e_l13, e_l20, e_l31, e_l32, e_l45, e_l48, e_l50, e_l57, e_l58, e_l59, e_l64, e_l70, e_l100, e_l106, e_l127, e_l138, e_l554, e_l799, e_l804, e_l1000, e_l2000, e_l2412, e_l100000, e_m1, nI_add, ni_mul, ni_sub, nI_clamp, e_ltT, e_ltF, e_leT, e_leF, e_eqT, e_eqF, e_mE, e_Em, e_mlt, e_mle, e_ltm, e_lem, e_gz, e_gt, e_bs, ite_self, e_el, e_er, tq_get, tq_set, tq_inc, tb_get_neg, tb_set_neg, and_true, true_and, and_false, false_and, not_false_eq_true, not_true_eq_false] <;> rfl
    · intro p M hM
      obtain ⟨M, rfl⟩ : ∃ M', M = M' + 1 := ⟨M - 1, by omega⟩
      simp (disch := omega) only [qX11_skips_0, p0, ↓reduceIte, e_lt, e_bd, e_grd, e_clamp, e_l0, e_l1, e_l2, e_l3, e_l4, e_l5, e_l6, e_l7, e_l8, e_l9, e_l10, e_l12, e_l13, e_l20, e_l31, e_l32, e_l45, e_l48, e_l50, e_l57, e_l58, e_l59, e_l64, e_l70, e_l100, e_l106, e_l127, e_l138, e_l554, e_l799, e_l804, e_l1000, e_l2000, e_l2412, e_l100000, e_m1, nI_add, ni_mul, ni_sub, nI_clamp, e_ltT, e_ltF, e_leT, e_leF, e_eqT, e_eqF, e_mE, e_Em, e_mlt, e_mle, e_ltm, e_lem, e_gz, e_gt, e_bs, ite_self, e_el, e_er, tq_get, tq_set, tq_inc, tb_get_neg, tb_set_neg, and_true, true_and, and_false, false_and, not_false_eq_true, not_true_eq_false] <;> rfl
  | succ d ih =>
    intro i hi
    obtain ⟨-, c, c1, c2⟩ := h.2 i (by omega)
    have hb : btx tx L i = nI c := (if_pos (by omega)).trans c2
    have b0 := c_by h (show i ≤ 200 by omega)
    have p0 := m_here (g := g) (sv := sv) (rd := rd) (bf := bf) (n2 := n2) (n5 := n5) (sm := sm) (thr := thr) (rm := rm) (so := so) (wr := wr) (fo := fo) (la := la) (pl := i) h (by omega)
    rw [hb] at p0 b0
    by_cases q : c = 32
    · subst q
      obtain ⟨j, j1, j2, j3, j4⟩ := ih (i + 1) (by omega)
      refine ⟨j, by omega, j2, ?_, ?_⟩
      · intro p M hM
        obtain ⟨M, rfl⟩ : ∃ M', M = M' + 1 := ⟨M - 1, by omega⟩
        have := j3 p M (by omega)
        simp (disch := omega) only [qX6_skipSpaces_0, b0, this, ↓reduceIte, e_lt, e_bd, e_grd, e_clamp, e_l0, e_l1, e_l2, e_l3, e_l4, e_l5, e_l6, e_l7, e_l8, e_l9, e_l10, e_l12, e_l13, e_l20, e_l31, e_l32, e_l45, e_l48, e_l50, e_l57, e_l58, e_l59, e_l64, e_l70, e_l100, e_l106, e_l127, e_l138, e_l554, e_l799, e_l804, e_l1000, e_l2000, e_l2412, e_l100000, e_m1, nI_add, ni_mul, ni_sub, nI_clamp, e_ltT, e_ltF, e_leT, e_leF, e_eqT, e_eqF, e_mE, e_Em, e_mlt, e_mle, e_ltm, e_lem, e_gz, e_gt, e_bs, ite_self, e_el, e_er, tq_get, tq_set, tq_inc, tb_get_neg, tb_set_neg, and_true, true_and, and_false, false_and, not_false_eq_true, not_true_eq_false] <;> rfl
      · intro p M hM
        obtain ⟨M, rfl⟩ : ∃ M', M = M' + 1 := ⟨M - 1, by omega⟩
        have := j4 p M (by omega)
        simp (disch := omega) only [qX11_skips_0, p0, this, ↓reduceIte, e_lt, e_bd, e_grd, e_clamp, e_l0, e_l1, e_l2, e_l3, e_l4, e_l5, e_l6, e_l7, e_l8, e_l9, e_l10, e_l12, e_l13, e_l20, e_l31, e_l32, e_l45, e_l48, e_l50, e_l57, e_l58, e_l59, e_l64, e_l70, e_l100, e_l106, e_l127, e_l138, e_l554, e_l799, e_l804, e_l1000, e_l2000, e_l2412, e_l100000, e_m1, nI_add, ni_mul, ni_sub, nI_clamp, e_ltT, e_ltF, e_leT, e_leF, e_eqT, e_eqF, e_mE, e_Em, e_mlt, e_mle, e_ltm, e_lem, e_gz, e_gt, e_bs, ite_self, e_el, e_er, tq_get, tq_set, tq_inc, tb_get_neg, tb_set_neg, and_true, true_and, and_false, false_and, not_false_eq_true, not_true_eq_false] <;> rfl
    · refine ⟨i, by omega, by omega, ?_, ?_⟩
      · intro p M hM
        obtain ⟨M, rfl⟩ : ∃ M', M = M' + 1 := ⟨M - 1, by omega⟩
        simp (disch := omega) only [qX6_skipSpaces_0, b0, ↓reduceIte, e_lt, e_bd, e_grd, e_clamp, e_l0, e_l1, e_l2, e_l3, e_l4, e_l5, e_l6, e_l7, e_l8, e_l9, e_l10, e_l12, e_l13, e_l20, e_l31, e_l32, e_l45, e_l48, e_l50, e_l57, e_l58, e_l59, e_l64, e_l70, e_l100, e_l106, e_l127, e_l138, e_l554, e_l799, e_l804, e_l1000, e_l2000, e_l2412, e_l100000, e_m1, nI_add, ni_mul, ni_sub, nI_clamp, e_ltT, e_ltF, e_leT, e_leF, e_eqT, e_eqF, e_mE, e_Em, e_mlt, e_mle, e_ltm, e_lem, e_gz, e_gt, e_bs, ite_self, e_el, e_er, tq_get, tq_set, tq_inc, tb_get_neg, tb_set_neg, and_true, true_and, and_false, false_and, not_false_eq_true, not_true_eq_false] <;> rfl
      · intro p M hM
        obtain ⟨M, rfl⟩ : ∃ M', M = M' + 1 := ⟨M - 1, by omega⟩
        simp (disch := omega) only [qX11_skips_0, p0, ↓reduceIte, e_lt, e_bd, e_grd, e_clamp, e_l0, e_l1, e_l2, e_l3, e_l4, e_l5, e_l6, e_l7, e_l8, e_l9, e_l10, e_l12, e_l13, e_l20, e_l31, e_l32, e_l45, e_l48, e_l50, e_l57, e_l58, e_l59, e_l64, e_l70, e_l100, e_l106, e_l127, e_l138, e_l554, e_l799, e_l804, e_l1000, e_l2000, e_l2412, e_l100000, e_m1, nI_add, ni_mul, ni_sub, nI_clamp, e_ltT, e_ltF, e_leT, e_leF, e_eqT, e_eqF, e_mE, e_Em, e_mlt, e_mle, e_ltm, e_lem, e_gz, e_gt, e_bs, ite_self, e_el, e_er, tq_get, tq_set, tq_inc, tb_get_neg, tb_set_neg, and_true, true_and, and_false, false_and, not_false_eq_true, not_true_eq_false] <;> rfl
end PR
