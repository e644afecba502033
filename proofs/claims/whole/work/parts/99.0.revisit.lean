/-! revisit times -/
def cvr (g : Nat → Int32) (c s : Nat) : Bool := decide (g (70 + 3 * s) ≤ nI c ∧ nI c ≤ g (70 + 3 * s + 1))
theorem c_cov2 {tp : Nat → Int32} {np : Nat} {pp2 pp3 : Int32} {g : Nat → Int32} {s c : Nat} (h0 : tp (s * 3 + 0) = g (70 + 3 * s)) (h1 : tp (s * 3 + 1) = g (70 + 3 * s + 1)) (hs : s < 12) : sX5_covers ((nI 12, nI 3, 12 * 3, tp), nI np, pp2, pp3) (nI s) (nI c) = some (if cvr g c s = true then nI 1 else nI 0) := by
  unfold cvr
  by_cases q1 : nI c < g (70 + 3 * s)
  · have q : ¬ (g (70 + 3 * s) ≤ nI c ∧ nI c ≤ g (70 + 3 * s + 1)) := fun h => (fa_of_lt q1).2.1 h.1
    simp (disch := omega) only [sX5_covers, h0, h1, q1, decide_eq_true_eq, q, ↓reduceIte, e_lt, e_bd, e_grd, e_clamp, e_l0, e_l1, e_l2, e_l3, e_l4, e_l5, e_l6, e_l7, e_l8, e_l9, e_l10, e_l12, e_l13, e_l20, e_l31, e_l32, e_l45, e_l48, e_l50, e_l57, e_l58, e_l59, e_l64, e_l70, e_l100, e_l106, e_l127, e_l138, e_l554, e_l799, e_l804, e_l1000, e_l2000, e_l2412, e_l100000, e_m1, nI_add, ni_mul, ni_sub, nI_clamp, e_ltT, e_ltF, e_leT, e_leF, e_eqT, e_eqF, e_mE, e_Em, e_mlt, e_mle, e_ltm, e_lem, e_gz, e_gt, e_bs, ite_self, e_el, e_er, tq_get, tq_set, tq_inc, tb_get_neg, tb_set_neg, and_true, true_and, and_false, false_and, not_false_eq_true, not_true_eq_false] <;> rfl
  · by_cases q2 : g (70 + 3 * s + 1) < nI c
    · have q : ¬ (g (70 + 3 * s) ≤ nI c ∧ nI c ≤ g (70 + 3 * s + 1)) := fun h => (fa_of_lt q2).2.1 h.2
      simp (disch := omega) only [sX5_covers, h0, h1, q1, q2, decide_eq_true_eq, q, ↓reduceIte, e_lt, e_bd, e_grd, e_clamp, e_l0, e_l1, e_l2, e_l3, e_l4, e_l5, e_l6, e_l7, e_l8, e_l9, e_l10, e_l12, e_l13, e_l20, e_l31, e_l32, e_l45, e_l48, e_l50, e_l57, e_l58, e_l59, e_l64, e_l70, e_l100, e_l106, e_l127, e_l138, e_l554, e_l799, e_l804, e_l1000, e_l2000, e_l2412, e_l100000, e_m1, nI_add, ni_mul, ni_sub, nI_clamp, e_ltT, e_ltF, e_leT, e_leF, e_eqT, e_eqF, e_mE, e_Em, e_mlt, e_mle, e_ltm, e_lem, e_gz, e_gt, e_bs, ite_self, e_el, e_er, tq_get, tq_set, tq_inc, tb_get_neg, tb_set_neg, and_true, true_and, and_false, false_and, not_false_eq_true, not_true_eq_false] <;> rfl
    · have q : g (70 + 3 * s) ≤ nI c ∧ nI c ≤ g (70 + 3 * s + 1) := ⟨fa_of_nlt q1, fa_of_nlt q2⟩
      simp (disch := omega) only [sX5_covers, h0, h1, q1, q2, decide_eq_true_eq, q, ↓reduceIte, e_lt, e_bd, e_grd, e_clamp, e_l0, e_l1, e_l2, e_l3, e_l4, e_l5, e_l6, e_l7, e_l8, e_l9, e_l10, e_l12, e_l13, e_l20, e_l31, e_l32, e_l45, e_l48, e_l50, e_l57, e_l58, e_l59, e_l64, e_l70, e_l100, e_l106, e_l127, e_l138, e_l554, e_l799, e_l804, e_l1000, e_l2000, e_l2412, e_l100000, e_m1, nI_add, ni_mul, ni_sub, nI_clamp, e_ltT, e_ltF, e_leT, e_leF, e_eqT, e_eqF, e_mE, e_Em, e_mlt, e_mle, e_ltm, e_lem, e_gz, e_gt, e_bs, ite_self, e_el, e_er, tq_get, tq_set, tq_inc, tb_get_neg, tb_set_neg, and_true, true_and, and_false, false_and, not_false_eq_true, not_true_eq_false] <;> rfl
theorem m_cov {w : V11} {s c : Nat} (hz : w.1.1 = 804) (hs : s < 12) : sX11_covers w (nI s) (nI c) = some (if cvr w.1.2 c s = true then nI 1 else nI 0) := by
  have e : (if cvr w.1.2 c s = true then nI 1 else nI 0) = if w.1.2 (70 + 3 * s) ≤ nI c ∧ nI c ≤ w.1.2 (70 + 3 * s + 1) then nI 1 else nI 0 := by
    unfold cvr
    simp only [decide_eq_true_eq]
  rw [e]
  simp (disch := omega) only [sX11_covers, hz, m_in, ↓reduceIte, e_lt, e_bd, e_grd, e_clamp, e_l0, e_l1, e_l2, e_l3, e_l4, e_l5, e_l6, e_l7, e_l8, e_l9, e_l10, e_l12, e_l13, e_l20, e_l31, e_l32, e_l45, e_l48, e_l50, e_l57, e_l58, e_l59, e_l64, e_l70, e_l100, e_l106, e_l127, e_l138, e_l554, e_l799, e_l804, e_l1000, e_l2000, e_l2412, e_l100000, e_m1, nI_add, ni_mul, ni_sub, nI_clamp, e_ltT, e_ltF, e_leT, e_leF, e_eqT, e_eqF, e_mE, e_Em, e_mlt, e_mle, e_ltm, e_lem, e_gz, e_gt, e_bs, ite_self, e_el, e_er, tq_get, tq_set, tq_inc, tb_get_neg, tb_set_neg, and_true, true_and, and_false, false_and, not_false_eq_true, not_true_eq_false]
  exact grd_pos (isz_if _) _
section RVS
variable {o : Int32 × V11} {c s dw : Nat}
theorem q_rv0 (hz : o.2.1.1 = 804) (hs : s < 12) (hd : o.2.1.2 (70 + 3 * s + 2) = nI dw) (hdw : dw ≤ 20) (hc : cvr o.2.1.2 c s = false) : ∀ (d i M tick : Nat) (la ms : Int32), i + d = dw → d < M → qX11_revisit_53 (nI c) o (nI s) M (nI tick) la ms (nI i) = some (nI (tick + d), la, ms, nI dw) := by
  intro d
  induction d with
  | zero =>
    intro i M tick la ms hi hM
    obtain ⟨M, rfl⟩ : ∃ N', M = N' + 1 := ⟨M - 1, by omega⟩
    have : i = dw := by omega
    subst this
    rw [qX11_revisit_53]
    simp (disch := omega) only [hz, hd, ↓reduceIte, e_lt, e_bd, e_grd, e_clamp, e_l0, e_l1, e_l2, e_l3, e_l4, e_l5, e_l6, e_l7, e_l8, e_l9, e_l10, e_l12, e_l13, e_l20, e_l31, e_l32, e_l45, e_l48, e_l50, e_l57, e_l58, e_l59, e_l64, e_l70, e_l100, e_l106, e_l127, e_l138, e_l554, e_l799, e_l804, e_l1000, e_l2000, e_l2412, e_l100000, e_m1, nI_add, ni_mul, ni_sub, nI_clamp, e_ltT, e_ltF, e_leT, e_leF, e_eqT, e_eqF, e_mE, e_Em, e_mlt, e_mle, e_ltm, e_lem, e_gz, e_gt, e_bs, ite_self, e_el, e_er, tq_get, tq_set, tq_inc, tb_get_neg, tb_set_neg, and_true, true_and, and_false, false_and, not_false_eq_true, not_true_eq_false] <;> rfl
  | succ d ih =>
    intro i M tick la ms hi hM
    obtain ⟨M, rfl⟩ : ∃ N', M = N' + 1 := ⟨M - 1, by omega⟩
    have hi2 := ih (i + 1) M (tick + 1) la ms (by omega) (by omega)
    rw [show tick + 1 + d = tick + (d + 1) by omega] at hi2
    have hcv := m_cov (w := o.2) (c := c) hz hs
    rw [hc] at hcv
    have hcv : sX11_covers o.2 (nI s) (nI c) = some (nI 0) := hcv
    rw [qX11_revisit_53]
    simp (disch := omega) only [hz, hd, hcv, hi2, ↓reduceIte, e_lt, e_bd, e_grd, e_clamp, e_l0, e_l1, e_l2, e_l3, e_l4, e_l5, e_l6, e_l7, e_l8, e_l9, e_l10, e_l12, e_l13, e_l20, e_l31, e_l32, e_l45, e_l48, e_l50, e_l57, e_l58, e_l59, e_l64, e_l70, e_l100, e_l106, e_l127, e_l138, e_l554, e_l799, e_l804, e_l1000, e_l2000, e_l2412, e_l100000, e_m1, nI_add, ni_mul, ni_sub, nI_clamp, e_ltT, e_ltF, e_leT, e_leF, e_eqT, e_eqF, e_mE, e_Em, e_mlt, e_mle, e_ltm, e_lem, e_gz, e_gt, e_bs, ite_self, e_el, e_er, tq_get, tq_set, tq_inc, tb_get_neg, tb_set_neg, and_true, true_and, and_false, false_and, not_false_eq_true, not_true_eq_false] <;> rfl
theorem q_rv1 (hz : o.2.1.1 = 804) (hs : s < 12) (hd : o.2.1.2 (70 + 3 * s + 2) = nI dw) (hdw : dw ≤ 20) (hc : cvr o.2.1.2 c s = true) {L : Nat} (hL : 1 ≤ L) (hL2 : L ≤ 1000) : ∀ (d i M tick : Nat), i + d = dw → d < M → 1 ≤ tick → tick + d ≤ 1000 → qX11_revisit_53 (nI c) o (nI s) M (nI tick) (nI (tick - 1)) (nI L) (nI i) = some (nI (tick + d), nI (tick + d - 1), nI L, nI dw) := by
  intro d
  induction d with
  | zero =>
    intro i M tick hi hM h1 h2
    obtain ⟨M, rfl⟩ : ∃ N', M = N' + 1 := ⟨M - 1, by omega⟩
    have : i = dw := by omega
    subst this
    rw [qX11_revisit_53]
    simp (disch := omega) only [hz, hd, ↓reduceIte, e_lt, e_bd, e_grd, e_clamp, e_l0, e_l1, e_l2, e_l3, e_l4, e_l5, e_l6, e_l7, e_l8, e_l9, e_l10, e_l12, e_l13, e_l20, e_l31, e_l32, e_l45, e_l48, e_l50, e_l57, e_l58, e_l59, e_l64, e_l70, e_l100, e_l106, e_l127, e_l138, e_l554, e_l799, e_l804, e_l1000, e_l2000, e_l2412, e_l100000, e_m1, nI_add, ni_mul, ni_sub, nI_clamp, e_ltT, e_ltF, e_leT, e_leF, e_eqT, e_eqF, e_mE, e_Em, e_mlt, e_mle, e_ltm, e_lem, e_gz, e_gt, e_bs, ite_self, e_el, e_er, tq_get, tq_set, tq_inc, tb_get_neg, tb_set_neg, and_true, true_and, and_false, false_and, not_false_eq_true, not_true_eq_false] <;> rfl
  | succ d ih =>
    intro i M tick hi hM h1 h2
    obtain ⟨M, rfl⟩ : ∃ N', M = N' + 1 := ⟨M - 1, by omega⟩
    have hcv := m_cov (w := o.2) (c := c) hz hs
    rw [hc] at hcv
    have hcv : sX11_covers o.2 (nI s) (nI c) = some (nI 1) := hcv
    have hi2 := ih (i + 1) M (tick + 1) (by omega) (by omega) (by omega) (by omega)
    rw [show tick + 1 + d = tick + (d + 1) by omega, show tick + 1 - 1 = tick from rfl] at hi2
    rw [qX11_revisit_53]
    simp (disch := omega) only [hz, hd, hcv, hi2, ↓reduceIte, e_lt, e_bd, e_grd, e_clamp, e_l0, e_l1, e_l2, e_l3, e_l4, e_l5, e_l6, e_l7, e_l8, e_l9, e_l10, e_l12, e_l13, e_l20, e_l31, e_l32, e_l45, e_l48, e_l50, e_l57, e_l58, e_l59, e_l64, e_l70, e_l100, e_l106, e_l127, e_l138, e_l554, e_l799, e_l804, e_l1000, e_l2000, e_l2412, e_l100000, e_m1, nI_add, ni_mul, ni_sub, nI_clamp, e_ltT, e_ltF, e_leT, e_leF, e_eqT, e_eqF, e_mE, e_Em, e_mlt, e_mle, e_ltm, e_lem, e_gz, e_gt, e_bs, ite_self, e_el, e_er, tq_get, tq_set, tq_inc, tb_get_neg, tb_set_neg, and_true, true_and, and_false, false_and, not_false_eq_true, not_true_eq_false] <;> rfl
theorem q_rv2 (hz : o.2.1.1 = 804) (hs : s < 12) (hd : o.2.1.2 (70 + 3 * s + 2) = nI dw) (hd1 : 1 ≤ dw) (hdw : dw ≤ 20) (hc : cvr o.2.1.2 c s = true) {M tick : Nat} (hM : 100 < M) (ht : tick ≤ 900) : ∃ ms, (ms = m1 ∨ ms = nI 1) ∧ qX11_revisit_53 (nI c) o (nI s) M (nI tick) m1 m1 (nI 0) = some (nI (tick + dw), nI (tick + dw - 1), ms, nI dw) := by
  obtain ⟨M, rfl⟩ : ∃ N', M = N' + 1 := ⟨M - 1, by omega⟩
  have hcv := m_cov (w := o.2) (c := c) hz hs
  rw [hc] at hcv
  have hcv : sX11_covers o.2 (nI s) (nI c) = some (nI 1) := hcv
  obtain ⟨M, rfl⟩ : ∃ N', M = N' + 1 := ⟨M - 1, by omega⟩
  by_cases h1 : dw = 1
  · subst h1
    refine ⟨m1, Or.inl rfl, ?_⟩
    rw [qX11_revisit_53]
    simp (disch := omega) only [hz, hd, hcv, ↓reduceIte, e_lt, e_bd, e_grd, e_clamp, e_l0, e_l1, e_l2, e_l3, e_l4, e_l5, e_l6, e_l7, e_l8, e_l9, e_l10, e_l12, e_l13, e_l20, e_l31, e_l32, e_l45, e_l48, e_l50, e_l57, e_l58, e_l59, e_l64, e_l70, e_l100, e_l106, e_l127, e_l138, e_l554, e_l799, e_l804, e_l1000, e_l2000, e_l2412, e_l100000, e_m1, nI_add, ni_mul, ni_sub, nI_clamp, e_ltT, e_ltF, e_leT, e_leF, e_eqT, e_eqF, e_mE, e_Em, e_mlt, e_mle, e_ltm, e_lem, e_gz, e_gt, e_bs, ite_self, e_el, e_er, tq_get, tq_set, tq_inc, tb_get_neg, tb_set_neg, and_true, true_and, and_false, false_and, not_false_eq_true, not_true_eq_false]
    rw [qX11_revisit_53]
    simp (disch := omega) only [hz, hd, Nat.add_sub_cancel, ↓reduceIte, e_lt, e_bd, e_grd, e_clamp, e_l0, e_l1, e_l2, e_l3, e_l4, e_l5, e_l6, e_l7, e_l8, e_l9, e_l10, e_l12, e_l13, e_l20, e_l31, e_l32, e_l45, e_l48, e_l50, e_l57, e_l58, e_l59, e_l64, e_l70, e_l100, e_l106, e_l127, e_l138, e_l554, e_l799, e_l804, e_l1000, e_l2000, e_l2412, e_l100000, e_m1, nI_add, ni_mul, ni_sub, nI_clamp, e_ltT, e_ltF, e_leT, e_leF, e_eqT, e_eqF, e_mE, e_Em, e_mlt, e_mle, e_ltm, e_lem, e_gz, e_gt, e_bs, ite_self, e_el, e_er, tq_get, tq_set, tq_inc, tb_get_neg, tb_set_neg, and_true, true_and, and_false, false_and, not_false_eq_true, not_true_eq_false] <;> rfl
  · refine ⟨nI 1, Or.inr rfl, ?_⟩
    have hi2 := q_rv1 hz hs hd hdw hc (L := 1) (by omega) (by omega) (dw - 2) 2 M (tick + 2) (by omega) (by omega) (by omega) (by omega)
    rw [show tick + 2 + (dw - 2) = tick + dw by omega, show tick + 2 - 1 = tick + 1 from rfl] at hi2
    rw [qX11_revisit_53]
    simp (disch := omega) only [hz, hd, hcv, ↓reduceIte, e_lt, e_bd, e_grd, e_clamp, e_l0, e_l1, e_l2, e_l3, e_l4, e_l5, e_l6, e_l7, e_l8, e_l9, e_l10, e_l12, e_l13, e_l20, e_l31, e_l32, e_l45, e_l48, e_l50, e_l57, e_l58, e_l59, e_l64, e_l70, e_l100, e_l106, e_l127, e_l138, e_l554, e_l799, e_l804, e_l1000, e_l2000, e_l2412, e_l100000, e_m1, nI_add, ni_mul, ni_sub, nI_clamp, e_ltT, e_ltF, e_leT, e_leF, e_eqT, e_eqF, e_mE, e_Em, e_mlt, e_mle, e_ltm, e_lem, e_gz, e_gt, e_bs, ite_self, e_el, e_er, tq_get, tq_set, tq_inc, tb_get_neg, tb_set_neg, and_true, true_and, and_false, false_and, not_false_eq_true, not_true_eq_false]
    rw [qX11_revisit_53]
    have e1 : tick + 1 - tick = 1 := by omega
    have e2 : tick + 1 + 1 = tick + 2 := rfl
    have e3 : (0 : Nat) + 1 + 1 = 2 := rfl
    simp (disch := omega) only [hz, hd, hcv, e1, e2, e3, hi2, ↓reduceIte, e_lt, e_bd, e_grd, e_clamp, e_l0, e_l1, e_l2, e_l3, e_l4, e_l5, e_l6, e_l7, e_l8, e_l9, e_l10, e_l12, e_l13, e_l20, e_l31, e_l32, e_l45, e_l48, e_l50, e_l57, e_l58, e_l59, e_l64, e_l70, e_l100, e_l106, e_l127, e_l138, e_l554, e_l799, e_l804, e_l1000, e_l2000, e_l2412, e_l100000, e_m1, nI_add, ni_mul, ni_sub, nI_clamp, e_ltT, e_ltF, e_leT, e_leF, e_eqT, e_eqF, e_mE, e_Em, e_mlt, e_mle, e_ltm, e_lem, e_gz, e_gt, e_bs, ite_self, e_el, e_er, tq_get, tq_set, tq_inc, tb_get_neg, tb_set_neg, and_true, true_and, and_false, false_and, not_false_eq_true, not_true_eq_false] <;> rfl
theorem q_rv3 (hz : o.2.1.1 = 804) (hs : s < 12) (hd : o.2.1.2 (70 + 3 * s + 2) = nI dw) (hd1 : 1 ≤ dw) (hdw : dw ≤ 20) (hc : cvr o.2.1.2 c s = true) {M tick la : Nat} (hM : 100 < M) (ht : tick ≤ 900) (hla : la < tick) {ms : Int32} (hms : ms = m1 ∨ ∃ L, 1 ≤ L ∧ L ≤ 900 ∧ ms = nI L) : qX11_revisit_53 (nI c) o (nI s) M (nI tick) (nI la) ms (nI 0) = some (nI (tick + dw), nI (tick + dw - 1), (if nI (tick - la) ≤ ms then ms else nI (tick - la)), nI dw) := by
  obtain ⟨M, rfl⟩ : ∃ N', M = N' + 1 := ⟨M - 1, by omega⟩
  have hcv := m_cov (w := o.2) (c := c) hz hs
  rw [hc] at hcv
  have hcv : sX11_covers o.2 (nI s) (nI c) = some (nI 1) := hcv
  have hgo : ∀ L, 1 ≤ L → L ≤ 900 → qX11_revisit_53 (nI c) o (nI s) M (nI (tick + 1)) (nI tick) (nI L) (nI (0 + 1)) = some (nI (tick + dw), nI (tick + dw - 1), nI L, nI dw) := by
    intro L h1 h2
    have hi2 := q_rv1 hz hs hd hdw hc (L := L) h1 (by omega) (dw - 1) 1 M (tick + 1) (by omega) (by omega) (by omega) (by omega)
    rw [show tick + 1 + (dw - 1) = tick + dw by omega, show tick + 1 - 1 = tick from rfl] at hi2
    exact hi2
  rcases hms with rfl | ⟨L, h1, h2, rfl⟩
  · have hi2 := hgo (tick - la) (by omega) (by omega)
    rw [qX11_revisit_53]
    simp (disch := omega) only [hz, hd, hcv, hi2, ↓reduceIte, e_lt, e_bd, e_grd, e_clamp, e_l0, e_l1, e_l2, e_l3, e_l4, e_l5, e_l6, e_l7, e_l8, e_l9, e_l10, e_l12, e_l13, e_l20, e_l31, e_l32, e_l45, e_l48, e_l50, e_l57, e_l58, e_l59, e_l64, e_l70, e_l100, e_l106, e_l127, e_l138, e_l554, e_l799, e_l804, e_l1000, e_l2000, e_l2412, e_l100000, e_m1, nI_add, ni_mul, ni_sub, nI_clamp, e_ltT, e_ltF, e_leT, e_leF, e_eqT, e_eqF, e_mE, e_Em, e_mlt, e_mle, e_ltm, e_lem, e_gz, e_gt, e_bs, ite_self, e_el, e_er, tq_get, tq_set, tq_inc, tb_get_neg, tb_set_neg, and_true, true_and, and_false, false_and, not_false_eq_true, not_true_eq_false] <;> rfl
  · by_cases q : tick - la ≤ L
    · have hi2 := hgo L h1 h2
      rw [qX11_revisit_53]
      simp (disch := omega) only [hz, hd, hcv, hi2, ↓reduceIte, e_lt, e_bd, e_grd, e_clamp, e_l0, e_l1, e_l2, e_l3, e_l4, e_l5, e_l6, e_l7, e_l8, e_l9, e_l10, e_l12, e_l13, e_l20, e_l31, e_l32, e_l45, e_l48, e_l50, e_l57, e_l58, e_l59, e_l64, e_l70, e_l100, e_l106, e_l127, e_l138, e_l554, e_l799, e_l804, e_l1000, e_l2000, e_l2412, e_l100000, e_m1, nI_add, ni_mul, ni_sub, nI_clamp, e_ltT, e_ltF, e_leT, e_leF, e_eqT, e_eqF, e_mE, e_Em, e_mlt, e_mle, e_ltm, e_lem, e_gz, e_gt, e_bs, ite_self, e_el, e_er, tq_get, tq_set, tq_inc, tb_get_neg, tb_set_neg, and_true, true_and, and_false, false_and, not_false_eq_true, not_true_eq_false] <;> rfl
    · have hi2 := hgo (tick - la) (by omega) (by omega)
      rw [qX11_revisit_53]
      simp (disch := omega) only [hz, hd, hcv, hi2, ↓reduceIte, e_lt, e_bd, e_grd, e_clamp, e_l0, e_l1, e_l2, e_l3, e_l4, e_l5, e_l6, e_l7, e_l8, e_l9, e_l10, e_l12, e_l13, e_l20, e_l31, e_l32, e_l45, e_l48, e_l50, e_l57, e_l58, e_l59, e_l64, e_l70, e_l100, e_l106, e_l127, e_l138, e_l554, e_l799, e_l804, e_l1000, e_l2000, e_l2412, e_l100000, e_m1, nI_add, ni_mul, ni_sub, nI_clamp, e_ltT, e_ltF, e_leT, e_leF, e_eqT, e_eqF, e_mE, e_Em, e_mlt, e_mle, e_ltm, e_lem, e_gz, e_gt, e_bs, ite_self, e_el, e_er, tq_get, tq_set, tq_inc, tb_get_neg, tb_set_neg, and_true, true_and, and_false, false_and, not_false_eq_true, not_true_eq_false] <;> rfl
end RVS
def RVI (cv : Nat → Bool) (n turn away sn tick : Nat) (lg la ms : Int32) : Prop := tick ≤ 20 * turn ∧ away ≤ 20 * turn ∧
  ((sn = 0 ∧ lg = m1 ∧ la = m1 ∧ ms = m1 ∧ ∀ t, t < turn → cv (t % n) = false) ∨
   (sn = 1 ∧ away + 1 ≤ tick ∧ la = nI (tick - (away + 1)) ∧ (∃ t, t < turn ∧ cv (t % n) = true) ∧ ((∃ L, 1 ≤ L ∧ L ≤ 900 ∧ lg = nI L ∧ ms = nI L) ∨ (lg = m1 ∧ (ms = m1 ∨ ms = nI 1) ∧ ∀ t t', t' < t → t < turn → ¬ (cv (t % n) = true ∧ cv (t' % n) = true)))))
theorem rvi_end {cv : Nat → Bool} {n away sn tick : Nat} {lg la ms : Int32} (hn : 0 < n) (h : RVI cv n (2 * n) away sn tick lg la ms) : ms = lg := by
  obtain ⟨-, -, ⟨-, h1, -, h2, -⟩ | ⟨-, -, -, ⟨t, h3, h4⟩, ⟨L, -, -, h5, h6⟩ | ⟨h5, h6, h7⟩⟩⟩ := h
  · rw [h1, h2]
  · rw [h5, h6]
  · exfalso
    have hm := Nat.mod_lt t hn
    refine h7 (t % n + n) (t % n) (by omega) (by omega) ⟨?_, ?_⟩
    · rw [Nat.add_mod_right, Nat.mod_mod]; exact h4
    · rw [Nat.mod_mod]; exact h4
theorem rv_step {cv : Nat → Bool} {n turn away sn tick dw : Nat} {lg la ms : Int32} (hn : 0 < n) (h : RVI cv n turn away sn tick lg la ms) (hd1 : 1 ≤ dw) (hd2 : dw ≤ 20) (hc : cv (turn % n) = false) : RVI cv n (turn + 1) (away + dw) sn (tick + dw) lg la ms := by
  obtain ⟨a1, a2, ⟨h0, h1, h1', h2, h3⟩ | ⟨h0, b1, b2, ⟨t, h3, h4⟩, h5⟩⟩ := h
  · refine ⟨by omega, by omega, Or.inl ⟨h0, h1, h1', h2, fun t ht => ?_⟩⟩
    by_cases q : t = turn
    · rw [q]; exact hc
    · exact h3 t (by omega)
  · refine ⟨by omega, by omega, Or.inr ⟨h0, by omega, ?_, ⟨t, by omega, h4⟩, ?_⟩⟩
    · rw [b2]
      exact congrArg _ (by omega)
    · rcases h5 with h5 | ⟨h5, h6, h7⟩
      · exact Or.inl h5
      · refine Or.inr ⟨h5, h6, fun t t' q1 q2 => ?_⟩
        by_cases q : t = turn
        · rw [q, hc]
          intro z
          exact absurd z.1 (by decide)
        · exact h7 t t' q1 (by omega)
theorem rv_loop {N n c : Nat} {tp : Nat → Int32} {pp2 pp3 : Int32} {o : Int32 × V11} (hN : 5000 ≤ N) (hz : o.2.1.1 = 804) (h6 : o.2.1.2 6 = nI n) (hn : n ≤ 12) (hn0 : 0 < n) (hk : ∀ i j, i < n → j < 3 → tp (i * 3 + j) = o.2.1.2 (70 + 3 * i + j)) (hok : ∀ i, i < n → stepOk o.2.1.2 i) :
    ∀ (d turn away sn tick : Nat) (lg la ms : Int32), turn + d = 2 * n → RVI (cvr o.2.1.2 c) n turn away sn tick lg la ms → ∃ x y, (∀ M, d < M → qX5_revisitTime_10 ((nI 12, nI 3, 12 * 3, tp), nI n, pp2, pp3) (nI c) M (nI away) (nI sn) (nI turn) lg = some (x, y)) ∧ ∃ y1 y2 y3, ∀ M, d < M → qX11_revisit_24 N (nI c) o M (nI tick) la ms (nI turn) = some (y1, y2, x, y3) := by
  intro d
  induction d with
  | zero =>
    intro turn away sn tick lg la ms ht h
    have : turn = 2 * n := by omega
    subst this
    have e := rvi_end hn0 h
    subst e
    refine ⟨ms, (nI away, nI sn, nI (2 * n)), fun M hM => ?_, nI tick, la, nI (2 * n), fun M hM => ?_⟩
    · obtain ⟨M, rfl⟩ : ∃ N', M = N' + 1 := ⟨M - 1, by omega⟩
      rw [qX5_revisitTime_10]
      simp (disch := omega) only [↓reduceIte, e_lt, e_bd, e_grd, e_clamp, e_l0, e_l1, e_l2, e_l3, e_l4, e_l5, e_l6, e_l7, e_l8, e_l9, e_l10, e_l12, e_l13, e_l20, e_l31, e_l32, e_l45, e_l48, e_l50, e_l57, e_l58, e_l59, e_l64, e_l70, e_l100, e_l106, e_l127, e_l138, e_l554, e_l799, e_l804, e_l1000, e_l2000, e_l2412, e_l100000, e_m1, nI_add, ni_mul, ni_sub, nI_clamp, e_ltT, e_ltF, e_leT, e_leF, e_eqT, e_eqF, e_mE, e_Em, e_mlt, e_mle, e_ltm, e_lem, e_gz, e_gt, e_bs, ite_self, e_el, e_er, tq_get, tq_set, tq_inc, tb_get_neg, tb_set_neg, and_true, true_and, and_false, false_and, not_false_eq_true, not_true_eq_false] <;> rfl
    · obtain ⟨M, rfl⟩ : ∃ N', M = N' + 1 := ⟨M - 1, by omega⟩
      rw [qX11_revisit_24]
      simp (disch := omega) only [hz, h6, ↓reduceIte, e_lt, e_bd, e_grd, e_clamp, e_l0, e_l1, e_l2, e_l3, e_l4, e_l5, e_l6, e_l7, e_l8, e_l9, e_l10, e_l12, e_l13, e_l20, e_l31, e_l32, e_l45, e_l48, e_l50, e_l57, e_l58, e_l59, e_l64, e_l70, e_l100, e_l106, e_l127, e_l138, e_l554, e_l799, e_l804, e_l1000, e_l2000, e_l2412, e_l100000, e_m1, nI_add, ni_mul, ni_sub, nI_clamp, e_ltT, e_ltF, e_leT, e_leF, e_eqT, e_eqF, e_mE, e_Em, e_mlt, e_mle, e_ltm, e_lem, e_gz, e_gt, e_bs, ite_self, e_el, e_er, tq_get, tq_set, tq_inc, tb_get_neg, tb_set_neg, and_true, true_and, and_false, false_and, not_false_eq_true, not_true_eq_false] <;> rfl
  | succ d ih =>
    intro turn away sn tick lg la ms ht h
    have hsn : turn % n < n := Nat.mod_lt _ hn0
    have hst : (if nI n ≤ nI turn then some (nI turn - nI n) else some (nI turn) : Option Int32) = some (nI (turn % n)) := by
      by_cases q : n ≤ turn
      · rw [if_pos (nI_le q (by omega)), ni_sub q, Nat.mod_eq_sub_mod q, Nat.mod_eq_of_lt (by omega)]
      · rw [if_neg (nI_ge (by omega) (by omega)), Nat.mod_eq_of_lt (by omega)]
    have hrm : nI turn - nI turn / nI n * nI n = nI (turn % n) := pk_rem (by omega) hn0 (by omega)
    generalize hs : turn % n = s at hsn hst hrm
    obtain ⟨lo, hi, dw, d1, d2, d3, d4, d5, d6, d7⟩ := hok s hsn
    have k2 := (hk s 2 hsn (by omega)).trans d3
    have hcc := c_cov2 (np := n) (pp2 := pp2) (pp3 := pp3) (g := o.2.1.2) (c := c) (hk s 0 hsn (by omega)) (hk s 1 hsn (by omega)) (by omega)
    have h2n : ¬ 2 * n ≤ turn := by omega
    by_cases hc : cvr o.2.1.2 c s = true
    · rw [if_pos hc] at hcc
      obtain ⟨a1, a2, ⟨h0, h1, h1', h2, h3⟩ | ⟨h0, b1, b2, ⟨t, h3, h4⟩, h5⟩⟩ := h
      · subst h0; subst h1; subst h1'; subst h2
        obtain ⟨ms, q1, q2⟩ := q_rv2 (M := N) (tick := tick) hz (by omega) d3 d6 d7 hc (by omega) (by omega)
        obtain ⟨x, y, e1, y1, y2, y3, e2⟩ := ih (turn + 1) 0 1 (tick + dw) m1 (nI (tick + dw - 1)) ms (by omega) ⟨by omega, by omega, Or.inr ⟨rfl, by omega, rfl, ⟨turn, by omega, by rw [hs]; exact hc⟩, Or.inr ⟨rfl, q1, fun t t' z1 z2 z3 => by
          have := h3 t' (by omega)
          rw [z3.2] at this
          exact absurd this (by decide)⟩⟩⟩
        refine ⟨x, y, fun M hM => ?_, y1, y2, y3, fun M hM => ?_⟩
        · obtain ⟨M, rfl⟩ : ∃ N', M = N' + 1 := ⟨M - 1, by omega⟩
          have e1 := e1 M (by omega)
          rw [qX5_revisitTime_10]
          simp (disch := omega) only [hst, hcc, e1, ↓reduceIte, e_lt, e_bd, e_grd, e_clamp, e_l0, e_l1, e_l2, e_l3, e_l4, e_l5, e_l6, e_l7, e_l8, e_l9, e_l10, e_l12, e_l13, e_l20, e_l31, e_l32, e_l45, e_l48, e_l50, e_l57, e_l58, e_l59, e_l64, e_l70, e_l100, e_l106, e_l127, e_l138, e_l554, e_l799, e_l804, e_l1000, e_l2000, e_l2412, e_l100000, e_m1, nI_add, ni_mul, ni_sub, nI_clamp, e_ltT, e_ltF, e_leT, e_leF, e_eqT, e_eqF, e_mE, e_Em, e_mlt, e_mle, e_ltm, e_lem, e_gz, e_gt, e_bs, ite_self, e_el, e_er, tq_get, tq_set, tq_inc, tb_get_neg, tb_set_neg, and_true, true_and, and_false, false_and, not_false_eq_true, not_true_eq_false] <;> rfl
        · obtain ⟨M, rfl⟩ : ∃ N', M = N' + 1 := ⟨M - 1, by omega⟩
          have e2 := e2 M (by omega)
          rw [qX11_revisit_24]
          simp (disch := omega) only [hz, h6, hrm, q2, e2, ↓reduceIte, e_lt, e_bd, e_grd, e_clamp, e_l0, e_l1, e_l2, e_l3, e_l4, e_l5, e_l6, e_l7, e_l8, e_l9, e_l10, e_l12, e_l13, e_l20, e_l31, e_l32, e_l45, e_l48, e_l50, e_l57, e_l58, e_l59, e_l64, e_l70, e_l100, e_l106, e_l127, e_l138, e_l554, e_l799, e_l804, e_l1000, e_l2000, e_l2412, e_l100000, e_m1, nI_add, ni_mul, ni_sub, nI_clamp, e_ltT, e_ltF, e_leT, e_leF, e_eqT, e_eqF, e_mE, e_Em, e_mlt, e_mle, e_ltm, e_lem, e_gz, e_gt, e_bs, ite_self, e_el, e_er, tq_get, tq_set, tq_inc, tb_get_neg, tb_set_neg, and_true, true_and, and_false, false_and, not_false_eq_true, not_true_eq_false] <;> rfl
      · subst h0; subst b2
        have hms : ms = m1 ∨ ∃ L, 1 ≤ L ∧ L ≤ 900 ∧ ms = nI L := by
          rcases h5 with ⟨L, z1, z2, z3, z4⟩ | ⟨z1, z2 | z2, z3⟩
          · exact Or.inr ⟨L, z1, z2, z4⟩
          · exact Or.inl z2
          · exact Or.inr ⟨1, by omega, by omega, z2⟩
        have q2 := q_rv3 (M := N) (tick := tick) (la := tick - (away + 1)) hz (by omega) d3 d6 d7 hc (by omega) (by omega) (by omega) hms
        rw [show tick - (tick - (away + 1)) = away + 1 by omega] at q2
        obtain ⟨L', l1, l2, l3, l4⟩ : ∃ L', 1 ≤ L' ∧ L' ≤ 900 ∧ (if nI (away + 1) ≤ ms then ms else nI (away + 1)) = nI L' ∧ (if lg < nI (away + 1) then nI (away + 1) else lg) = nI L' := by
          rcases h5 with ⟨L, z1, z2, rfl, rfl⟩ | ⟨rfl, rfl | rfl, z3⟩
          · by_cases z : away + 1 ≤ L
            · refine ⟨L, z1, z2, ?_, ?_⟩
              · rw [if_pos (nI_le z (by omega))]
              · rw [if_neg (nI_nlt (by omega) (by omega))]
            · refine ⟨away + 1, by omega, by omega, ?_, ?_⟩
              · rw [if_neg (nI_ge (by omega) (by omega))]
              · rw [if_pos (nI_lt (by omega) (by omega))]
          · refine ⟨away + 1, by omega, by omega, ?_, ?_⟩
            · rw [if_neg (of_eq_false (e_lem (by omega)))]
            · rw [if_pos (of_eq_true (e_mlt (by omega)))]
          · refine ⟨away + 1, by omega, by omega, ?_, ?_⟩
            · by_cases z : away = 0
              · subst z
                rw [if_pos (nI_le (by omega) (by omega))]
              · rw [if_neg (nI_ge (by omega) (by omega))]
            · rw [if_pos (of_eq_true (e_mlt (by omega)))]
        rw [l3] at q2
        obtain ⟨x, y, e1, y1, y2, y3, e2⟩ := ih (turn + 1) 0 1 (tick + dw) (nI L') (nI (tick + dw - 1)) (nI L') (by omega) ⟨by omega, by omega, Or.inr ⟨rfl, by omega, rfl, ⟨t, by omega, h4⟩, Or.inl ⟨L', l1, l2, rfl, rfl⟩⟩⟩
        refine ⟨x, y, fun M hM => ?_, y1, y2, y3, fun M hM => ?_⟩
        · obtain ⟨M, rfl⟩ : ∃ N', M = N' + 1 := ⟨M - 1, by omega⟩
          have e1 := e1 M (by omega)
          rw [qX5_revisitTime_10]
          simp (disch := omega) only [hst, hcc, l4, e1, ↓reduceIte, e_lt, e_bd, e_grd, e_clamp, e_l0, e_l1, e_l2, e_l3, e_l4, e_l5, e_l6, e_l7, e_l8, e_l9, e_l10, e_l12, e_l13, e_l20, e_l31, e_l32, e_l45, e_l48, e_l50, e_l57, e_l58, e_l59, e_l64, e_l70, e_l100, e_l106, e_l127, e_l138, e_l554, e_l799, e_l804, e_l1000, e_l2000, e_l2412, e_l100000, e_m1, nI_add, ni_mul, ni_sub, nI_clamp, e_ltT, e_ltF, e_leT, e_leF, e_eqT, e_eqF, e_mE, e_Em, e_mlt, e_mle, e_ltm, e_lem, e_gz, e_gt, e_bs, ite_self, e_el, e_er, tq_get, tq_set, tq_inc, tb_get_neg, tb_set_neg, and_true, true_and, and_false, false_and, not_false_eq_true, not_true_eq_false] <;> rfl
        · obtain ⟨M, rfl⟩ : ∃ N', M = N' + 1 := ⟨M - 1, by omega⟩
          have e2 := e2 M (by omega)
          rw [qX11_revisit_24]
          simp (disch := omega) only [hz, h6, hrm, q2, e2, ↓reduceIte, e_lt, e_bd, e_grd, e_clamp, e_l0, e_l1, e_l2, e_l3, e_l4, e_l5, e_l6, e_l7, e_l8, e_l9, e_l10, e_l12, e_l13, e_l20, e_l31, e_l32, e_l45, e_l48, e_l50, e_l57, e_l58, e_l59, e_l64, e_l70, e_l100, e_l106, e_l127, e_l138, e_l554, e_l799, e_l804, e_l1000, e_l2000, e_l2412, e_l100000, e_m1, nI_add, ni_mul, ni_sub, nI_clamp, e_ltT, e_ltF, e_leT, e_leF, e_eqT, e_eqF, e_mE, e_Em, e_mlt, e_mle, e_ltm, e_lem, e_gz, e_gt, e_bs, ite_self, e_el, e_er, tq_get, tq_set, tq_inc, tb_get_neg, tb_set_neg, and_true, true_and, and_false, false_and, not_false_eq_true, not_true_eq_false] <;> rfl
    · rw [if_neg hc] at hcc
      have hc' : cvr o.2.1.2 c s = false := by
        cases hq : cvr o.2.1.2 c s
        · rfl
        · exact absurd hq hc
      have q2 := q_rv0 hz (by omega) d3 d7 hc' dw 0 N tick la ms (by omega) (by omega)
      obtain ⟨x, y, e1, y1, y2, y3, e2⟩ := ih (turn + 1) (away + dw) sn (tick + dw) lg la ms (by omega) (rv_step hn0 h d6 d7 (by rw [hs]; exact hc'))
      refine ⟨x, y, fun M hM => ?_, y1, y2, y3, fun M hM => ?_⟩
      · obtain ⟨M, rfl⟩ : ∃ N', M = N' + 1 := ⟨M - 1, by omega⟩
        have e1 := e1 M (by omega)
        rw [qX5_revisitTime_10]
        simp (disch := omega) only [hst, hcc, k2, e1, ↓reduceIte, e_lt, e_bd, e_grd, e_clamp, e_l0, e_l1, e_l2, e_l3, e_l4, e_l5, e_l6, e_l7, e_l8, e_l9, e_l10, e_l12, e_l13, e_l20, e_l31, e_l32, e_l45, e_l48, e_l50, e_l57, e_l58, e_l59, e_l64, e_l70, e_l100, e_l106, e_l127, e_l138, e_l554, e_l799, e_l804, e_l1000, e_l2000, e_l2412, e_l100000, e_m1, nI_add, ni_mul, ni_sub, nI_clamp, e_ltT, e_ltF, e_leT, e_leF, e_eqT, e_eqF, e_mE, e_Em, e_mlt, e_mle, e_ltm, e_lem, e_gz, e_gt, e_bs, ite_self, e_el, e_er, tq_get, tq_set, tq_inc, tb_get_neg, tb_set_neg, and_true, true_and, and_false, false_and, not_false_eq_true, not_true_eq_false] <;> rfl
      · obtain ⟨M, rfl⟩ : ∃ N', M = N' + 1 := ⟨M - 1, by omega⟩
        have e2 := e2 M (by omega)
        rw [qX11_revisit_24]
        simp (disch := omega) only [hz, h6, hrm, q2, e2, ↓reduceIte, e_lt, e_bd, e_grd, e_clamp, e_l0, e_l1, e_l2, e_l3, e_l4, e_l5, e_l6, e_l7, e_l8, e_l9, e_l10, e_l12, e_l13, e_l20, e_l31, e_l32, e_l45, e_l48, e_l50, e_l57, e_l58, e_l59, e_l64, e_l70, e_l100, e_l106, e_l127, e_l138, e_l554, e_l799, e_l804, e_l1000, e_l2000, e_l2412, e_l100000, e_m1, nI_add, ni_mul, ni_sub, nI_clamp, e_ltT, e_ltF, e_leT, e_leF, e_eqT, e_eqF, e_mE, e_Em, e_mlt, e_mle, e_ltm, e_lem, e_gz, e_gt, e_bs, ite_self, e_el, e_er, tq_get, tq_set, tq_inc, tb_get_neg, tb_set_neg, and_true, true_and, and_false, false_and, not_false_eq_true, not_true_eq_false] <;> rfl
theorem pu_revisit {N : Nat} (hN : 5000 ≤ N) : PU_revisit RR N := by
  intro cn v w p1 hcn h
  have hz : w.1.1 = 804 := h.1.1
  by_cases hA : nI 0 ≤ p1 ∧ p1 < nI 32
  case neg =>
    refine Or.inr ⟨(nI 0, setTh w (nI 1)), ?_, ?_, rfl, h.th (nI 1)⟩
    · simp (disch := omega) only [sX10_revisit, c_idx, hA, ↓reduceIte, e_lt, e_bd, e_grd, e_clamp, e_l0, e_l1, e_l2, e_l3, e_l4, e_l5, e_l6, e_l7, e_l8, e_l9, e_l10, e_l12, e_l13, e_l20, e_l31, e_l32, e_l45, e_l48, e_l50, e_l57, e_l58, e_l59, e_l64, e_l70, e_l100, e_l106, e_l127, e_l138, e_l554, e_l799, e_l804, e_l1000, e_l2000, e_l2412, e_l100000, e_m1, nI_add, ni_mul, ni_sub, nI_clamp, e_ltT, e_ltF, e_leT, e_leF, e_eqT, e_eqF, e_mE, e_Em, e_mlt, e_mle, e_ltm, e_lem, e_gz, e_gt, e_bs, ite_self, e_el, e_er, tq_get, tq_set, tq_inc, tb_get_neg, tb_set_neg, and_true, true_and, and_false, false_and, not_false_eq_true, not_true_eq_false] <;> rfl
    · simp (disch := omega) only [sX11_revisit, m_isC', hA, m_go0, ↓reduceIte, e_lt, e_bd, e_grd, e_clamp, e_l0, e_l1, e_l2, e_l3, e_l4, e_l5, e_l6, e_l7, e_l8, e_l9, e_l10, e_l12, e_l13, e_l20, e_l31, e_l32, e_l45, e_l48, e_l50, e_l57, e_l58, e_l59, e_l64, e_l70, e_l100, e_l106, e_l127, e_l138, e_l554, e_l799, e_l804, e_l1000, e_l2000, e_l2412, e_l100000, e_m1, nI_add, ni_mul, ni_sub, nI_clamp, e_ltT, e_ltF, e_leT, e_leF, e_eqT, e_eqF, e_mE, e_Em, e_mlt, e_mle, e_ltm, e_lem, e_gz, e_gt, e_bs, ite_self, e_el, e_er, tq_get, tq_set, tq_inc, tb_get_neg, tb_set_neg, and_true, true_and, and_false, false_and, not_false_eq_true, not_true_eq_false] <;> rfl
  obtain ⟨c, hc, rfl⟩ := rg_lt (by decide) hA.1 hA.2
  obtain ⟨-, -, ⟨-, ⟨hT, n, pp, el, hn, e1, e2, e3, -, e4, -, -, -, -, -, hk, hok⟩, -⟩, -⟩ := id h
  obtain ⟨tp, htp⟩ := hT.ex
  have hpn : v.2.2.1.2.1 = ((nI 12, nI 3, 12 * 3, tp), nI n, nI pp, nI el) := by
    rw [← htp, ← e1, ← e3, ← e4]
  rw [htp] at hk
  by_cases hn0 : 0 < n
  · obtain ⟨x, y, a1, y1, y2, y3, a2⟩ := rv_loop (N := N) (n := n) (c := c) (tp := tp) (pp2 := nI pp) (pp3 := nI el) (o := (nI 1, setTh w (nI 0))) hN hz e2 hn hn0 hk hok (2 * n) 0 0 0 0 m1 m1 m1 (by omega) ⟨by omega, by omega, Or.inl ⟨rfl, rfl, rfl, rfl, fun t ht => by omega⟩⟩
    have a1 := a1 N (by omega)
    have a2 := a2 N (by omega)
    refine Or.inl ⟨x, (x, setTh w (nI 0)), ?_, ?_, rfl, rfl, h.th (nI 0)⟩
    · simp (disch := omega) only [sX10_revisit, c_idx, hpn, sX5_revisitTime, a1, ↓reduceIte, e_lt, e_bd, e_grd, e_clamp, e_l0, e_l1, e_l2, e_l3, e_l4, e_l5, e_l6, e_l7, e_l8, e_l9, e_l10, e_l12, e_l13, e_l20, e_l31, e_l32, e_l45, e_l48, e_l50, e_l57, e_l58, e_l59, e_l64, e_l70, e_l100, e_l106, e_l127, e_l138, e_l554, e_l799, e_l804, e_l1000, e_l2000, e_l2412, e_l100000, e_m1, nI_add, ni_mul, ni_sub, nI_clamp, e_ltT, e_ltF, e_leT, e_leF, e_eqT, e_eqF, e_mE, e_Em, e_mlt, e_mle, e_ltm, e_lem, e_gz, e_gt, e_bs, ite_self, e_el, e_er, tq_get, tq_set, tq_inc, tb_get_neg, tb_set_neg, and_true, true_and, and_false, false_and, not_false_eq_true, not_true_eq_false] <;> rfl
    · simp (disch := omega) only [sX11_revisit, m_isC', m_go11, a2, ↓reduceIte, e_lt, e_bd, e_grd, e_clamp, e_l0, e_l1, e_l2, e_l3, e_l4, e_l5, e_l6, e_l7, e_l8, e_l9, e_l10, e_l12, e_l13, e_l20, e_l31, e_l32, e_l45, e_l48, e_l50, e_l57, e_l58, e_l59, e_l64, e_l70, e_l100, e_l106, e_l127, e_l138, e_l554, e_l799, e_l804, e_l1000, e_l2000, e_l2412, e_l100000, e_m1, nI_add, ni_mul, ni_sub, nI_clamp, e_ltT, e_ltF, e_leT, e_leF, e_eqT, e_eqF, e_mE, e_Em, e_mlt, e_mle, e_ltm, e_lem, e_gz, e_gt, e_bs, ite_self, e_el, e_er, tq_get, tq_set, tq_inc, tb_get_neg, tb_set_neg, and_true, true_and, and_false, false_and, not_false_eq_true, not_true_eq_false] <;> rfl
  · have : n = 0 := by omega
    subst this
    obtain ⟨M, rfl⟩ : ∃ N', N = N' + 1 := ⟨N - 1, by omega⟩
    refine Or.inl ⟨m1, (m1, setTh w (nI 0)), ?_, ?_, rfl, rfl, h.th (nI 0)⟩
    · simp (disch := omega) only [sX10_revisit, c_idx, hpn, sX5_revisitTime, qX5_revisitTime_10, ↓reduceIte, e_lt, e_bd, e_grd, e_clamp, e_l0, e_l1, e_l2, e_l3, e_l4, e_l5, e_l6, e_l7, e_l8, e_l9, e_l10, e_l12, e_l13, e_l20, e_l31, e_l32, e_l45, e_l48, e_l50, e_l57, e_l58, e_l59, e_l64, e_l70, e_l100, e_l106, e_l127, e_l138, e_l554, e_l799, e_l804, e_l1000, e_l2000, e_l2412, e_l100000, e_m1, nI_add, ni_mul, ni_sub, nI_clamp, e_ltT, e_ltF, e_leT, e_leF, e_eqT, e_eqF, e_mE, e_Em, e_mlt, e_mle, e_ltm, e_lem, e_gz, e_gt, e_bs, ite_self, e_el, e_er, tq_get, tq_set, tq_inc, tb_get_neg, tb_set_neg, and_true, true_and, and_false, false_and, not_false_eq_true, not_true_eq_false] <;> rfl
    · have e2 : (setTh w (nI 0)).1.2 6 = nI 0 := e2
      have hz : (setTh w (nI 0)).1.1 = 804 := hz
      simp (disch := omega) only [sX11_revisit, m_isC', m_go11, qX11_revisit_24, e2, hz, ↓reduceIte, e_lt, e_bd, e_grd, e_clamp, e_l0, e_l1, e_l2, e_l3, e_l4, e_l5, e_l6, e_l7, e_l8, e_l9, e_l10, e_l12, e_l13, e_l20, e_l31, e_l32, e_l45, e_l48, e_l50, e_l57, e_l58, e_l59, e_l64, e_l70, e_l100, e_l106, e_l127, e_l138, e_l554, e_l799, e_l804, e_l1000, e_l2000, e_l2412, e_l100000, e_m1, nI_add, ni_mul, ni_sub, nI_clamp, e_ltT, e_ltF, e_leT, e_leF, e_eqT, e_eqF, e_mE, e_Em, e_mlt, e_mle, e_ltm, e_lem, e_gz, e_gt, e_bs, ite_self, e_el, e_er, tq_get, tq_set, tq_inc, tb_get_neg, tb_set_neg, and_true, true_and, and_false, false_and, not_false_eq_true, not_true_eq_false] <;> rfl
