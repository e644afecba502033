/-! a signal removed -/
theorem q_rem {o : V11} (h1 : o.1.1 = 804) : ∀ (N i : Nat) (f : Nat → Int32), i ≤ 64 → 64 - i < N → ∃ f', qX11_removeSignal_37 o N (nI i) f = some (nI 64, f') ∧ ∀ k, f' k = if i ≤ k ∧ k < 64 then f (k + 6) else f k := by
  intro N
  induction N with
  | zero => intro i f _ h; omega
  | succ N ih =>
    intro i f hi hN
    unfold qX11_removeSignal_37
    rcases Nat.lt_or_ge i 64 with hlt | hge
    · simp (disch := omega) only [h1, ↓reduceIte, e_lt, e_bd, e_grd, e_clamp, e_l0, e_l1, e_l2, e_l3, e_l4, e_l5, e_l6, e_l7, e_l8, e_l9, e_l10, e_l12, e_l13, e_l20, e_l31, e_l32, e_l45, e_l48, e_l50, e_l57, e_l58, e_l59, e_l64, e_l70, e_l100, e_l106, e_l127, e_l138, e_l554, e_l799, e_l804, e_l1000, e_l2000, e_l2412, e_l100000, e_m1, nI_add, ni_mul, ni_sub, nI_clamp, e_ltT, e_ltF, e_leT, e_leF, e_eqT, e_eqF, e_mE, e_Em, e_mlt, e_mle, e_ltm, e_lem, e_gz, e_gt, e_bs, ite_self, e_el, e_er, tq_get, tq_set, tq_inc, tb_get_neg, tb_set_neg, and_true, true_and, and_false, false_and, not_false_eq_true, not_true_eq_false]
      obtain ⟨f', e1, e2⟩ := ih (i + 1) (upd f i (f (i + 6))) hlt (by omega)
      refine ⟨f', e1, fun k => ?_⟩
      rw [e2 k]
      unfold upd
      by_cases q1 : k = i
      · subst q1
        rw [if_neg (by omega), if_pos rfl, if_pos (by omega)]
      · by_cases q2 : i ≤ k ∧ k < 64
        · rw [if_pos (by omega), if_neg (by omega), if_pos q2]
        · rw [if_neg (by omega), if_neg q1, if_neg q2]
    · have : i = 64 := by omega
      subst this
      simp (disch := omega) only [↓reduceIte, e_lt, e_bd, e_grd, e_clamp, e_l0, e_l1, e_l2, e_l3, e_l4, e_l5, e_l6, e_l7, e_l8, e_l9, e_l10, e_l12, e_l13, e_l20, e_l31, e_l32, e_l45, e_l48, e_l50, e_l57, e_l58, e_l59, e_l64, e_l70, e_l100, e_l106, e_l127, e_l138, e_l554, e_l799, e_l804, e_l1000, e_l2000, e_l2412, e_l100000, e_m1, nI_add, ni_mul, ni_sub, nI_clamp, e_ltT, e_ltF, e_leT, e_leF, e_eqT, e_eqF, e_mE, e_Em, e_mlt, e_mle, e_ltm, e_lem, e_gz, e_gt, e_bs, ite_self, e_el, e_er, tq_get, tq_set, tq_inc, tb_get_neg, tb_set_neg, and_true, true_and, and_false, false_and, not_false_eq_true, not_true_eq_false]
      exact ⟨f, rfl, fun k => by rw [if_neg (by omega)]⟩
theorem c_rem {f : Nat → Int32} {n s : Nat} (hs : s < n) (hn : n ≤ 10) : sX7_remove ((nI 10, nI 6, 10 * 6, f), nI n) (nI s) = some ((nI 10, nI 6, 10 * 6, va_cpy f f (s * 6 + 6) (s * 6) (10 * 6 - s * 6 - 6)), nI (n - 1)) := by
  simp (disch := omega) only [sX7_remove, sX9_removeRow, c_within, e_ac, ↓reduceIte, e_lt, e_bd, e_grd, e_clamp, e_l0, e_l1, e_l2, e_l3, e_l4, e_l5, e_l6, e_l7, e_l8, e_l9, e_l10, e_l12, e_l13, e_l20, e_l31, e_l32, e_l45, e_l48, e_l50, e_l57, e_l58, e_l59, e_l64, e_l70, e_l100, e_l106, e_l127, e_l138, e_l554, e_l799, e_l804, e_l1000, e_l2000, e_l2412, e_l100000, e_m1, nI_add, ni_mul, ni_sub, nI_clamp, e_ltT, e_ltF, e_leT, e_leF, e_eqT, e_eqF, e_mE, e_Em, e_mlt, e_mle, e_ltm, e_lem, e_gz, e_gt, e_bs, ite_self, e_el, e_er, tq_get, tq_set, tq_inc, tb_get_neg, tb_set_neg, and_true, true_and, and_false, false_and, not_false_eq_true, not_true_eq_false] <;> rfl
theorem pu_removeSignal {N : Nat} (hN : 5000 ≤ N) : PU_removeSignal RR N := by
  intro cn v w p1 hcn h
  have hz : w.1.1 = 804 := h.1.1
  obtain ⟨n, hn, e5, g5, hk, hok⟩ : ∃ n, n ≤ 10 ∧ v.2.2.1.1.2 = nI n ∧ w.1.2 5 = nI n ∧ (∀ i j, i < n → j < 6 → v.2.2.1.1.1.2.2.2 (i * 6 + j) = w.1.2 (10 + 6 * i + j)) ∧ ∀ i, i < n → sigOk w.1.2 i := by
    obtain ⟨-, -, ⟨⟨-, n, q⟩, -⟩, -⟩ := id h
    exact ⟨n, q⟩
  by_cases hA : nI 0 ≤ p1 ∧ p1 < nI n
  case neg =>
    refine Or.inr ⟨(nI 0, setTh w (nI 1)), ?_, ?_, rfl, h.th (nI 1)⟩
    · simp (disch := omega) only [sX10_removeSignal, c_idx, e5, hA, ↓reduceIte, e_lt, e_bd, e_grd, e_clamp, e_l0, e_l1, e_l2, e_l3, e_l4, e_l5, e_l6, e_l7, e_l8, e_l9, e_l10, e_l12, e_l13, e_l20, e_l31, e_l32, e_l45, e_l48, e_l50, e_l57, e_l58, e_l59, e_l64, e_l70, e_l100, e_l106, e_l127, e_l138, e_l554, e_l799, e_l804, e_l1000, e_l2000, e_l2412, e_l100000, e_m1, nI_add, ni_mul, ni_sub, nI_clamp, e_ltT, e_ltF, e_leT, e_leF, e_eqT, e_eqF, e_mE, e_Em, e_mlt, e_mle, e_ltm, e_lem, e_gz, e_gt, e_bs, ite_self, e_el, e_er, tq_get, tq_set, tq_inc, tb_get_neg, tb_set_neg, and_true, true_and, and_false, false_and, not_false_eq_true, not_true_eq_false] <;> rfl
    · simp (disch := omega) only [sX11_removeSignal, hz, g5, m_inx, e_k0, e_k1, e_k2, e_k3, e_k4, e_k5, e_k6, e_k7, e_k8, e_k9]
      simp (disch := omega) only [hA, m_go0, hz, ↓reduceIte, e_lt, e_bd, e_grd, e_clamp, e_l0, e_l1, e_l2, e_l3, e_l4, e_l5, e_l6, e_l7, e_l8, e_l9, e_l10, e_l12, e_l13, e_l20, e_l31, e_l32, e_l45, e_l48, e_l50, e_l57, e_l58, e_l59, e_l64, e_l70, e_l100, e_l106, e_l127, e_l138, e_l554, e_l799, e_l804, e_l1000, e_l2000, e_l2412, e_l100000, e_m1, nI_add, ni_mul, ni_sub, nI_clamp, e_ltT, e_ltF, e_leT, e_leF, e_eqT, e_eqF, e_mE, e_Em, e_mlt, e_mle, e_ltm, e_lem, e_gz, e_gt, e_bs, ite_self, e_el, e_er, tq_get, tq_set, tq_inc, tb_get_neg, tb_set_neg, and_true, true_and, and_false, false_and, not_false_eq_true, not_true_eq_false] <;> rfl
  obtain ⟨s, hs, rfl⟩ := rg_lt (by omega) hA.1 hA.2
  obtain ⟨hv, sv, m, e1, e2, e3⟩ := sv_both h hN (nI 0)
  obtain ⟨f, hf⟩ := (show TB 10 6 v.2.2.1.1.1 from h.2.2.1.1.1).ex
  have hs1 : v.2.2.1.1 = ((nI 10, nI 6, 10 * 6, f), nI n) := by
    rw [← hf, ← e5]
  rw [hf] at hk
  have hk : ∀ i j, i < n → j < 6 → f (i * 6 + j) = w.1.2 (10 + 6 * i + j) := hk
  obtain ⟨f', a1, a2⟩ := q_rem (o := ((w.1.1, w.1.2), (w.2.1.1, sv), nI m, nI 0, w.2.2.2.2)) hz N (10 + 6 * s) w.1.2 (by omega) (by omega)
  simp only [hz] at e2 a1
  have a5 : f' 5 = nI n := by rw [a2, if_neg (by omega), g5]
  refine Or.inl ⟨(nI (n - 1), (v.1, v.2.1, (((nI 10, nI 6, 10 * 6, va_cpy f f (s * 6 + 6) (s * 6) (10 * 6 - s * 6 - 6)), nI (n - 1)), v.2.2.1.2), hv, v.2.2.2.2.1, v.2.2.2.2.2)), (nI (n - 1), ((w.1.1, upd f' 5 (nI (n - 1))), (w.2.1.1, sv), nI m, nI 0, w.2.2.2.2)), ?_, ?_, rfl, rfl, ?_⟩
  · simp (disch := omega) only [sX10_removeSignal, c_idx, e5, hA, e1, hs1, c_rem, ↓reduceIte, e_lt, e_bd, e_grd, e_clamp, e_l0, e_l1, e_l2, e_l3, e_l4, e_l5, e_l6, e_l7, e_l8, e_l9, e_l10, e_l12, e_l13, e_l20, e_l31, e_l32, e_l45, e_l48, e_l50, e_l57, e_l58, e_l59, e_l64, e_l70, e_l100, e_l106, e_l127, e_l138, e_l554, e_l799, e_l804, e_l1000, e_l2000, e_l2412, e_l100000, e_m1, nI_add, ni_mul, ni_sub, nI_clamp, e_ltT, e_ltF, e_leT, e_leF, e_eqT, e_eqF, e_mE, e_Em, e_mlt, e_mle, e_ltm, e_lem, e_gz, e_gt, e_bs, ite_self, e_el, e_er, tq_get, tq_set, tq_inc, tb_get_neg, tb_set_neg, and_true, true_and, and_false, false_and, not_false_eq_true, not_true_eq_false] <;> rfl
  · simp (disch := omega) only [sX11_removeSignal, hz, g5, m_inx, e_k0, e_k1, e_k2, e_k3, e_k4, e_k5, e_k6, e_k7, e_k8, e_k9]
    simp (disch := omega) only [hA, m_go11, e2, a1, hz, a5, e_eq, ↓reduceIte, e_lt, e_bd, e_grd, e_clamp, e_l0, e_l1, e_l2, e_l3, e_l4, e_l5, e_l6, e_l7, e_l8, e_l9, e_l10, e_l12, e_l13, e_l20, e_l31, e_l32, e_l45, e_l48, e_l50, e_l57, e_l58, e_l59, e_l64, e_l70, e_l100, e_l106, e_l127, e_l138, e_l554, e_l799, e_l804, e_l1000, e_l2000, e_l2412, e_l100000, e_m1, nI_add, ni_mul, ni_sub, nI_clamp, e_ltT, e_ltF, e_leT, e_leF, e_eqT, e_eqF, e_mE, e_Em, e_mlt, e_mle, e_ltm, e_lem, e_gz, e_gt, e_bs, ite_self, e_el, e_er, tq_get, tq_set, tq_inc, tb_get_neg, tb_set_neg, and_true, true_and, and_false, false_and, not_false_eq_true, not_true_eq_false] <;> rfl
  · refine RR.up h (ST.sig (h.2.2.1.mono (by omega)) ⟨TB.mk 10 6 _, n - 1, by omega, rfl, e_eq rfl, fun i j hi hj => ?_, fun i hi => ?_⟩ (fun k hk' => ?_)) e3
    · rw [e_ne (by omega), a2]
      show va_cpy f f (s * 6 + 6) (s * 6) (10 * 6 - s * 6 - 6) (i * 6 + j) = _
      unfold va_cpy
      by_cases e : i < s
      · rw [if_neg (by omega), if_neg (by omega)]
        exact hk i j (by omega) hj
      · rw [if_pos (by omega), if_pos (by omega), show s * 6 + 6 + (i * 6 + j - s * 6) = (i + 1) * 6 + j by omega, show 10 + 6 * i + j + 6 = 10 + 6 * (i + 1) + j by omega]
        exact hk (i + 1) j (by omega) hj
    · by_cases e : i < s
      · refine sigOk_sh (i' := i) (fun j hj => ?_) (hok i (by omega))
        rw [e_ne (by omega), a2, if_neg (by omega)]
      · refine sigOk_sh (i' := i + 1) (fun j hj => ?_) (hok (i + 1) (by omega))
        rw [e_ne (by omega), a2, if_pos (by omega), show 10 + 6 * i + j + 6 = 10 + 6 * (i + 1) + j by omega]
    · rw [e_ne (by omega), a2, if_neg (by omega)]
/-! masks -/
theorem q_mask {x : Int32} {b : Nat} (hb : b < 32) : ∀ (N i : Nat) (f : Nat → Int32), i ≤ b + 1 → b + 1 - i < N → ∃ f', qX1_mask_3 (nI b) x N (nI i) (nI 32, nI 1, 32 * 1, f) = some (nI (b + 1), (nI 32, nI 1, 32 * 1, f')) ∧ ∀ k, f' k = if i ≤ k ∧ k ≤ b then x else f k := by
  intro N
  induction N with
  | zero => intro i f _ h; omega
  | succ N ih =>
    intro i f hi hN
    unfold qX1_mask_3
    rcases Nat.lt_or_ge b i with hge | hlt
    · have : i = b + 1 := by omega
      subst this
      simp (disch := omega) only [↓reduceIte, e_lt, e_bd, e_grd, e_clamp, e_l0, e_l1, e_l2, e_l3, e_l4, e_l5, e_l6, e_l7, e_l8, e_l9, e_l10, e_l12, e_l13, e_l20, e_l31, e_l32, e_l45, e_l48, e_l50, e_l57, e_l58, e_l59, e_l64, e_l70, e_l100, e_l106, e_l127, e_l138, e_l554, e_l799, e_l804, e_l1000, e_l2000, e_l2412, e_l100000, e_m1, nI_add, ni_mul, ni_sub, nI_clamp, e_ltT, e_ltF, e_leT, e_leF, e_eqT, e_eqF, e_mE, e_Em, e_mlt, e_mle, e_ltm, e_lem, e_gz, e_gt, e_bs, ite_self, e_el, e_er, tq_get, tq_set, tq_inc, tb_get_neg, tb_set_neg, and_true, true_and, and_false, false_and, not_false_eq_true, not_true_eq_false]
      exact ⟨f, rfl, fun k => by rw [if_neg (by omega)]⟩
    · simp (disch := omega) only [↓reduceIte, e_lt, e_bd, e_grd, e_clamp, e_l0, e_l1, e_l2, e_l3, e_l4, e_l5, e_l6, e_l7, e_l8, e_l9, e_l10, e_l12, e_l13, e_l20, e_l31, e_l32, e_l45, e_l48, e_l50, e_l57, e_l58, e_l59, e_l64, e_l70, e_l100, e_l106, e_l127, e_l138, e_l554, e_l799, e_l804, e_l1000, e_l2000, e_l2412, e_l100000, e_m1, nI_add, ni_mul, ni_sub, nI_clamp, e_ltT, e_ltF, e_leT, e_leF, e_eqT, e_eqF, e_mE, e_Em, e_mlt, e_mle, e_ltm, e_lem, e_gz, e_gt, e_bs, ite_self, e_el, e_er, tq_get, tq_set, tq_inc, tb_get_neg, tb_set_neg, and_true, true_and, and_false, false_and, not_false_eq_true, not_true_eq_false]
      obtain ⟨f', e1, e2⟩ := ih (i + 1) (upd f (i * 1 + 0) x) (by omega) (by omega)
      refine ⟨f', e1, fun k => ?_⟩
      rw [e2 k]
      unfold upd
      by_cases q1 : k = i * 1 + 0
      · rw [if_neg (by omega), if_pos q1, if_pos (by omega)]
      · by_cases q2 : i ≤ k ∧ k ≤ b
        · rw [if_pos (by omega), if_pos q2]
        · rw [if_neg (by omega), if_neg q1, if_neg q2]
theorem q_rmask {x : Int32} {b : Nat} {o : V11} (h1 : o.1.1 = 804) (hb : b < 32) : ∀ (N i : Nat) (f : Nat → Int32), i ≤ b + 1 → b + 1 - i < N → ∃ f', qX11_setMask_55 (nI b) x o N (nI i) f = some (nI (b + 1), f') ∧ ∀ k, f' k = if 106 + i ≤ k ∧ k ≤ 106 + b then x else f k := by
  intro N
  induction N with
  | zero => intro i f _ h; omega
  | succ N ih =>
    intro i f hi hN
    unfold qX11_setMask_55
    rcases Nat.lt_or_ge b i with hge | hlt
    · have : i = b + 1 := by omega
      subst this
      simp (disch := omega) only [↓reduceIte, e_lt, e_bd, e_grd, e_clamp, e_l0, e_l1, e_l2, e_l3, e_l4, e_l5, e_l6, e_l7, e_l8, e_l9, e_l10, e_l12, e_l13, e_l20, e_l31, e_l32, e_l45, e_l48, e_l50, e_l57, e_l58, e_l59, e_l64, e_l70, e_l100, e_l106, e_l127, e_l138, e_l554, e_l799, e_l804, e_l1000, e_l2000, e_l2412, e_l100000, e_m1, nI_add, ni_mul, ni_sub, nI_clamp, e_ltT, e_ltF, e_leT, e_leF, e_eqT, e_eqF, e_mE, e_Em, e_mlt, e_mle, e_ltm, e_lem, e_gz, e_gt, e_bs, ite_self, e_el, e_er, tq_get, tq_set, tq_inc, tb_get_neg, tb_set_neg, and_true, true_and, and_false, false_and, not_false_eq_true, not_true_eq_false]
      exact ⟨f, rfl, fun k => by rw [if_neg (by omega)]⟩
    · simp (disch := omega) only [h1, ↓reduceIte, e_lt, e_bd, e_grd, e_clamp, e_l0, e_l1, e_l2, e_l3, e_l4, e_l5, e_l6, e_l7, e_l8, e_l9, e_l10, e_l12, e_l13, e_l20, e_l31, e_l32, e_l45, e_l48, e_l50, e_l57, e_l58, e_l59, e_l64, e_l70, e_l100, e_l106, e_l127, e_l138, e_l554, e_l799, e_l804, e_l1000, e_l2000, e_l2412, e_l100000, e_m1, nI_add, ni_mul, ni_sub, nI_clamp, e_ltT, e_ltF, e_leT, e_leF, e_eqT, e_eqF, e_mE, e_Em, e_mlt, e_mle, e_ltm, e_lem, e_gz, e_gt, e_bs, ite_self, e_el, e_er, tq_get, tq_set, tq_inc, tb_get_neg, tb_set_neg, and_true, true_and, and_false, false_and, not_false_eq_true, not_true_eq_false]
      obtain ⟨f', e1, e2⟩ := ih (i + 1) (upd f (106 + i) x) (by omega) (by omega)
      refine ⟨f', e1, fun k => ?_⟩
      rw [e2 k]
      unfold upd
      by_cases q1 : k = 106 + i
      · rw [if_neg (by omega), if_pos q1, if_pos (by omega)]
      · by_cases q2 : 106 + i ≤ k ∧ k ≤ 106 + b
        · rw [if_pos (by omega), if_pos q2]
        · rw [if_neg (by omega), if_neg q1, if_neg q2]
/-- what a change in the detectors' part leaves -/
theorem ST.det {v : V8} {g g' : Nat → Int32} {T : Nat} {s : V1} (h : ST v g T) (hs : ∀ t, Rdet v.2.2.1 g t → Rdet s g' t) (hg : ∀ k, ¬ (106 ≤ k ∧ k < 554) → g' k = g k) : ST (v.1, v.2.1, s, v.2.2.2) g' T := by
  obtain ⟨h1, h2, t, h3, h4, h5, h6, h7⟩ := h
  exact ⟨Rsig_cg (fun k hk => (hg k (by omega)).symm) h1, Rpl_cg (fun k hk => (hg k (by omega)).symm) h2, t, h3, (hg 0 (by omega)).trans h4, hs t h5, Rev_cg (fun k hk => (hg k (by omega)).symm) h6, Rnum_cg (fun k hk => (hg k (by omega)).symm) h7⟩
theorem pu_setMask {N : Nat} (hN : 5000 ≤ N) : PU_setMask RR N := by
  intro cn v w p1 p2 p3 hcn h
  have hz : w.1.1 = 804 := h.1.1
  by_cases hB : nI 0 ≤ p2 ∧ p2 < nI 32
  case neg =>
    refine Or.inr (Or.inl ⟨(nI 0, setTh w (nI 1)), ?_, ?_, rfl, h.th (nI 1)⟩)
    · simp (disch := omega) only [sX10_setMask, c_idx, hB, ↓reduceIte, e_lt, e_bd, e_grd, e_clamp, e_l0, e_l1, e_l2, e_l3, e_l4, e_l5, e_l6, e_l7, e_l8, e_l9, e_l10, e_l12, e_l13, e_l20, e_l31, e_l32, e_l45, e_l48, e_l50, e_l57, e_l58, e_l59, e_l64, e_l70, e_l100, e_l106, e_l127, e_l138, e_l554, e_l799, e_l804, e_l1000, e_l2000, e_l2412, e_l100000, e_m1, nI_add, ni_mul, ni_sub, nI_clamp, e_ltT, e_ltF, e_leT, e_leF, e_eqT, e_eqF, e_mE, e_Em, e_mlt, e_mle, e_ltm, e_lem, e_gz, e_gt, e_bs, ite_self, e_el, e_er, tq_get, tq_set, tq_inc, tb_get_neg, tb_set_neg, and_true, true_and, and_false, false_and, not_false_eq_true, not_true_eq_false] <;> rfl
    · by_cases hA : nI 0 ≤ p1 ∧ p1 < nI 32
      · by_cases hC : nI 0 ≤ p3 ∧ p3 ≤ nI 100
        · simp (disch := omega) only [sX11_setMask, m_isC', m_isL, hA, hB, hC, m_go0, ↓reduceIte, e_lt, e_bd, e_grd, e_clamp, e_l0, e_l1, e_l2, e_l3, e_l4, e_l5, e_l6, e_l7, e_l8, e_l9, e_l10, e_l12, e_l13, e_l20, e_l31, e_l32, e_l45, e_l48, e_l50, e_l57, e_l58, e_l59, e_l64, e_l70, e_l100, e_l106, e_l127, e_l138, e_l554, e_l799, e_l804, e_l1000, e_l2000, e_l2412, e_l100000, e_m1, nI_add, ni_mul, ni_sub, nI_clamp, e_ltT, e_ltF, e_leT, e_leF, e_eqT, e_eqF, e_mE, e_Em, e_mlt, e_mle, e_ltm, e_lem, e_gz, e_gt, e_bs, ite_self, e_el, e_er, tq_get, tq_set, tq_inc, tb_get_neg, tb_set_neg, and_true, true_and, and_false, false_and, not_false_eq_true, not_true_eq_false] <;> rfl
        · simp (disch := omega) only [sX11_setMask, m_isC', m_isL, hA, hB, hC, m_go0, ↓reduceIte, e_lt, e_bd, e_grd, e_clamp, e_l0, e_l1, e_l2, e_l3, e_l4, e_l5, e_l6, e_l7, e_l8, e_l9, e_l10, e_l12, e_l13, e_l20, e_l31, e_l32, e_l45, e_l48, e_l50, e_l57, e_l58, e_l59, e_l64, e_l70, e_l100, e_l106, e_l127, e_l138, e_l554, e_l799, e_l804, e_l1000, e_l2000, e_l2412, e_l100000, e_m1, nI_add, ni_mul, ni_sub, nI_clamp, e_ltT, e_ltF, e_leT, e_leF, e_eqT, e_eqF, e_mE, e_Em, e_mlt, e_mle, e_ltm, e_lem, e_gz, e_gt, e_bs, ite_self, e_el, e_er, tq_get, tq_set, tq_inc, tb_get_neg, tb_set_neg, and_true, true_and, and_false, false_and, not_false_eq_true, not_true_eq_false] <;> rfl
      · by_cases hC : nI 0 ≤ p3 ∧ p3 ≤ nI 100
        · simp (disch := omega) only [sX11_setMask, m_isC', m_isL, hA, hB, hC, m_go0, ↓reduceIte, e_lt, e_bd, e_grd, e_clamp, e_l0, e_l1, e_l2, e_l3, e_l4, e_l5, e_l6, e_l7, e_l8, e_l9, e_l10, e_l12, e_l13, e_l20, e_l31, e_l32, e_l45, e_l48, e_l50, e_l57, e_l58, e_l59, e_l64, e_l70, e_l100, e_l106, e_l127, e_l138, e_l554, e_l799, e_l804, e_l1000, e_l2000, e_l2412, e_l100000, e_m1, nI_add, ni_mul, ni_sub, nI_clamp, e_ltT, e_ltF, e_leT, e_leF, e_eqT, e_eqF, e_mE, e_Em, e_mlt, e_mle, e_ltm, e_lem, e_gz, e_gt, e_bs, ite_self, e_el, e_er, tq_get, tq_set, tq_inc, tb_get_neg, tb_set_neg, and_true, true_and, and_false, false_and, not_false_eq_true, not_true_eq_false] <;> rfl
        · simp (disch := omega) only [sX11_setMask, m_isC', m_isL, hA, hB, hC, m_go0, ↓reduceIte, e_lt, e_bd, e_grd, e_clamp, e_l0, e_l1, e_l2, e_l3, e_l4, e_l5, e_l6, e_l7, e_l8, e_l9, e_l10, e_l12, e_l13, e_l20, e_l31, e_l32, e_l45, e_l48, e_l50, e_l57, e_l58, e_l59, e_l64, e_l70, e_l100, e_l106, e_l127, e_l138, e_l554, e_l799, e_l804, e_l1000, e_l2000, e_l2412, e_l100000, e_m1, nI_add, ni_mul, ni_sub, nI_clamp, e_ltT, e_ltF, e_leT, e_leF, e_eqT, e_eqF, e_mE, e_Em, e_mlt, e_mle, e_ltm, e_lem, e_gz, e_gt, e_bs, ite_self, e_el, e_er, tq_get, tq_set, tq_inc, tb_get_neg, tb_set_neg, and_true, true_and, and_false, false_and, not_false_eq_true, not_true_eq_false] <;> rfl
  obtain ⟨b, hb, rfl⟩ := rg_lt (by decide) hB.1 hB.2
  by_cases hA : nI 0 ≤ p1 ∧ p1 < nI (b + 1)
  case neg =>
    refine Or.inr (Or.inl ⟨(nI 0, setTh w (nI 1)), ?_, ?_, rfl, h.th (nI 1)⟩)
    · simp (disch := omega) only [sX10_setMask, c_idx, hA, ↓reduceIte, e_lt, e_bd, e_grd, e_clamp, e_l0, e_l1, e_l2, e_l3, e_l4, e_l5, e_l6, e_l7, e_l8, e_l9, e_l10, e_l12, e_l13, e_l20, e_l31, e_l32, e_l45, e_l48, e_l50, e_l57, e_l58, e_l59, e_l64, e_l70, e_l100, e_l106, e_l127, e_l138, e_l554, e_l799, e_l804, e_l1000, e_l2000, e_l2412, e_l100000, e_m1, nI_add, ni_mul, ni_sub, nI_clamp, e_ltT, e_ltF, e_leT, e_leF, e_eqT, e_eqF, e_mE, e_Em, e_mlt, e_mle, e_ltm, e_lem, e_gz, e_gt, e_bs, ite_self, e_el, e_er, tq_get, tq_set, tq_inc, tb_get_neg, tb_set_neg, and_true, true_and, and_false, false_and, not_false_eq_true, not_true_eq_false] <;> rfl
    · by_cases hD : nI 0 ≤ p1 ∧ p1 < nI 32
      · obtain ⟨a, ha, rfl⟩ := rg_lt (by decide) hD.1 hD.2
        have hab : b < a := by
          refine Nat.lt_of_not_le (fun q => hA ⟨hD.1, nI_lt (by omega) (by omega)⟩)
        by_cases hC : nI 0 ≤ p3 ∧ p3 ≤ nI 100
        · simp (disch := omega) only [sX11_setMask, m_isC', m_isL, hC, m_go0, ↓reduceIte, e_lt, e_bd, e_grd, e_clamp, e_l0, e_l1, e_l2, e_l3, e_l4, e_l5, e_l6, e_l7, e_l8, e_l9, e_l10, e_l12, e_l13, e_l20, e_l31, e_l32, e_l45, e_l48, e_l50, e_l57, e_l58, e_l59, e_l64, e_l70, e_l100, e_l106, e_l127, e_l138, e_l554, e_l799, e_l804, e_l1000, e_l2000, e_l2412, e_l100000, e_m1, nI_add, ni_mul, ni_sub, nI_clamp, e_ltT, e_ltF, e_leT, e_leF, e_eqT, e_eqF, e_mE, e_Em, e_mlt, e_mle, e_ltm, e_lem, e_gz, e_gt, e_bs, ite_self, e_el, e_er, tq_get, tq_set, tq_inc, tb_get_neg, tb_set_neg, and_true, true_and, and_false, false_and, not_false_eq_true, not_true_eq_false] <;> rfl
        · simp (disch := omega) only [sX11_setMask, m_isC', m_isL, hC, m_go0, ↓reduceIte, e_lt, e_bd, e_grd, e_clamp, e_l0, e_l1, e_l2, e_l3, e_l4, e_l5, e_l6, e_l7, e_l8, e_l9, e_l10, e_l12, e_l13, e_l20, e_l31, e_l32, e_l45, e_l48, e_l50, e_l57, e_l58, e_l59, e_l64, e_l70, e_l100, e_l106, e_l127, e_l138, e_l554, e_l799, e_l804, e_l1000, e_l2000, e_l2412, e_l100000, e_m1, nI_add, ni_mul, ni_sub, nI_clamp, e_ltT, e_ltF, e_leT, e_leF, e_eqT, e_eqF, e_mE, e_Em, e_mlt, e_mle, e_ltm, e_lem, e_gz, e_gt, e_bs, ite_self, e_el, e_er, tq_get, tq_set, tq_inc, tb_get_neg, tb_set_neg, and_true, true_and, and_false, false_and, not_false_eq_true, not_true_eq_false] <;> rfl
      · by_cases hC : nI 0 ≤ p3 ∧ p3 ≤ nI 100
        · simp (disch := omega) only [sX11_setMask, m_isC', m_isL, hD, hC, m_go0, ↓reduceIte, e_lt, e_bd, e_grd, e_clamp, e_l0, e_l1, e_l2, e_l3, e_l4, e_l5, e_l6, e_l7, e_l8, e_l9, e_l10, e_l12, e_l13, e_l20, e_l31, e_l32, e_l45, e_l48, e_l50, e_l57, e_l58, e_l59, e_l64, e_l70, e_l100, e_l106, e_l127, e_l138, e_l554, e_l799, e_l804, e_l1000, e_l2000, e_l2412, e_l100000, e_m1, nI_add, ni_mul, ni_sub, nI_clamp, e_ltT, e_ltF, e_leT, e_leF, e_eqT, e_eqF, e_mE, e_Em, e_mlt, e_mle, e_ltm, e_lem, e_gz, e_gt, e_bs, ite_self, e_el, e_er, tq_get, tq_set, tq_inc, tb_get_neg, tb_set_neg, and_true, true_and, and_false, false_and, not_false_eq_true, not_true_eq_false] <;> rfl
        · simp (disch := omega) only [sX11_setMask, m_isC', m_isL, hD, hC, m_go0, ↓reduceIte, e_lt, e_bd, e_grd, e_clamp, e_l0, e_l1, e_l2, e_l3, e_l4, e_l5, e_l6, e_l7, e_l8, e_l9, e_l10, e_l12, e_l13, e_l20, e_l31, e_l32, e_l45, e_l48, e_l50, e_l57, e_l58, e_l59, e_l64, e_l70, e_l100, e_l106, e_l127, e_l138, e_l554, e_l799, e_l804, e_l1000, e_l2000, e_l2412, e_l100000, e_m1, nI_add, ni_mul, ni_sub, nI_clamp, e_ltT, e_ltF, e_leT, e_leF, e_eqT, e_eqF, e_mE, e_Em, e_mlt, e_mle, e_ltm, e_lem, e_gz, e_gt, e_bs, ite_self, e_el, e_er, tq_get, tq_set, tq_inc, tb_get_neg, tb_set_neg, and_true, true_and, and_false, false_and, not_false_eq_true, not_true_eq_false] <;> rfl
  obtain ⟨a, ha, rfl⟩ := rg_lt (by omega) hA.1 hA.2
  by_cases hC : nI 0 ≤ p3 ∧ p3 ≤ nI 100
  case neg =>
    refine Or.inr (Or.inr ⟨(nI 0, setTh w (nI 2)), ?_, ?_, rfl, h.th (nI 2)⟩)
    · simp (disch := omega) only [sX10_setMask, c_idx, c_arg, hC, ↓reduceIte, e_lt, e_bd, e_grd, e_clamp, e_l0, e_l1, e_l2, e_l3, e_l4, e_l5, e_l6, e_l7, e_l8, e_l9, e_l10, e_l12, e_l13, e_l20, e_l31, e_l32, e_l45, e_l48, e_l50, e_l57, e_l58, e_l59, e_l64, e_l70, e_l100, e_l106, e_l127, e_l138, e_l554, e_l799, e_l804, e_l1000, e_l2000, e_l2412, e_l100000, e_m1, nI_add, ni_mul, ni_sub, nI_clamp, e_ltT, e_ltF, e_leT, e_leF, e_eqT, e_eqF, e_mE, e_Em, e_mlt, e_mle, e_ltm, e_lem, e_gz, e_gt, e_bs, ite_self, e_el, e_er, tq_get, tq_set, tq_inc, tb_get_neg, tb_set_neg, and_true, true_and, and_false, false_and, not_false_eq_true, not_true_eq_false] <;> rfl
    · simp (disch := omega) only [sX11_setMask, m_isC', m_isL, hC, m_go10, ↓reduceIte, e_lt, e_bd, e_grd, e_clamp, e_l0, e_l1, e_l2, e_l3, e_l4, e_l5, e_l6, e_l7, e_l8, e_l9, e_l10, e_l12, e_l13, e_l20, e_l31, e_l32, e_l45, e_l48, e_l50, e_l57, e_l58, e_l59, e_l64, e_l70, e_l100, e_l106, e_l127, e_l138, e_l554, e_l799, e_l804, e_l1000, e_l2000, e_l2412, e_l100000, e_m1, nI_add, ni_mul, ni_sub, nI_clamp, e_ltT, e_ltF, e_leT, e_leF, e_eqT, e_eqF, e_mE, e_Em, e_mlt, e_mle, e_ltm, e_lem, e_gz, e_gt, e_bs, ite_self, e_el, e_er, tq_get, tq_set, tq_inc, tb_get_neg, tb_set_neg, and_true, true_and, and_false, false_and, not_false_eq_true, not_true_eq_false] <;> rfl
  obtain ⟨hv, sv, m, e1, e2, e3⟩ := sv_both h hN (nI 0)
  obtain ⟨hm, hk⟩ : TB 32 1 v.2.2.1.2.2.1.2.2 ∧ ∀ c, c < 32 → v.2.2.1.2.2.1.2.2.2.2.2 (c * 1 + 0) = w.1.2 (106 + c) := by
    obtain ⟨-, -, ⟨-, -, t, -, -, ⟨-, -, q1, q2, -⟩, -⟩, -⟩ := id h
    exact ⟨q1, q2⟩
  obtain ⟨f, hf⟩ := hm.ex
  rw [hf] at hk
  have hk : ∀ c, c < 32 → f (c * 1 + 0) = w.1.2 (106 + c) := hk
  obtain ⟨f1, a1, a2⟩ := q_mask (x := p3) hb N a f (by omega) (by omega)
  obtain ⟨f2, b1, b2⟩ := q_rmask (x := p3) (o := ((w.1.1, w.1.2), (w.2.1.1, sv), nI m, nI 0, w.2.2.2.2)) hz hb N a w.1.2 (by omega) (by omega)
  simp only [hz] at e2 b1
  refine Or.inl ⟨(f (a * 1 + 0), (v.1, v.2.1, (v.2.2.1.1, v.2.2.1.2.1, (v.2.2.1.2.2.1.1, v.2.2.1.2.2.1.2.1, (nI 32, nI 1, 32 * 1, f1)), v.2.2.1.2.2.2), hv, v.2.2.2.2.1, v.2.2.2.2.2)), (w.1.2 (106 + a), ((w.1.1, f2), (w.2.1.1, sv), nI m, nI 0, w.2.2.2.2)), ?_, ?_, rfl, hk a (by omega), ?_⟩
  · simp (disch := omega) only [sX10_setMask, c_idx, c_arg, hC, e1, sX1_maskOf, sX1_mask, hf, a1, ↓reduceIte, e_lt, e_bd, e_grd, e_clamp, e_l0, e_l1, e_l2, e_l3, e_l4, e_l5, e_l6, e_l7, e_l8, e_l9, e_l10, e_l12, e_l13, e_l20, e_l31, e_l32, e_l45, e_l48, e_l50, e_l57, e_l58, e_l59, e_l64, e_l70, e_l100, e_l106, e_l127, e_l138, e_l554, e_l799, e_l804, e_l1000, e_l2000, e_l2412, e_l100000, e_m1, nI_add, ni_mul, ni_sub, nI_clamp, e_ltT, e_ltF, e_leT, e_leF, e_eqT, e_eqF, e_mE, e_Em, e_mlt, e_mle, e_ltm, e_lem, e_gz, e_gt, e_bs, ite_self, e_el, e_er, tq_get, tq_set, tq_inc, tb_get_neg, tb_set_neg, and_true, true_and, and_false, false_and, not_false_eq_true, not_true_eq_false] <;> rfl
  · simp (disch := omega) only [sX11_setMask, m_isC', m_isL, hC, m_go11, e2, hz, b1, ↓reduceIte, e_lt, e_bd, e_grd, e_clamp, e_l0, e_l1, e_l2, e_l3, e_l4, e_l5, e_l6, e_l7, e_l8, e_l9, e_l10, e_l12, e_l13, e_l20, e_l31, e_l32, e_l45, e_l48, e_l50, e_l57, e_l58, e_l59, e_l64, e_l70, e_l100, e_l106, e_l127, e_l138, e_l554, e_l799, e_l804, e_l1000, e_l2000, e_l2412, e_l100000, e_m1, nI_add, ni_mul, ni_sub, nI_clamp, e_ltT, e_ltF, e_leT, e_leF, e_eqT, e_eqF, e_mE, e_Em, e_mlt, e_mle, e_ltm, e_lem, e_gz, e_gt, e_bs, ite_self, e_el, e_er, tq_get, tq_set, tq_inc, tb_get_neg, tb_set_neg, and_true, true_and, and_false, false_and, not_false_eq_true, not_true_eq_false] <;> rfl
  · refine RR.up h (ST.det (h.2.2.1.mono (by omega)) (fun t q => ?_) (fun k hk' => ?_)) e3
    · obtain ⟨c1, c2, c3, c4, c5, c6⟩ := q
      refine ⟨c1, c2, TB.mk 32 1 _, fun c hc => ?_, fun c j hc hj => ?_, fun c hc => ?_⟩
      · show f1 (c * 1 + 0) = f2 (106 + c)
        rw [a2, b2]
        by_cases q : a ≤ c ∧ c ≤ b
        · rw [if_pos (by omega), if_pos (by omega)]
        · rw [if_neg (by omega), if_neg (by omega)]
          exact hk c hc
      · rw [b2, if_neg (by omega)]
        exact c5 c j hc hj
      · obtain ⟨ob, d1, d2, d3, d4⟩ := c6 c hc
        refine ⟨ob, d1, ?_, ?_, fun j hj => ?_⟩
        · rw [b2, if_neg (by omega)]; exact d2
        · rw [b2, if_neg (by omega)]; exact d3
        · rw [b2, if_neg (by omega)]; exact d4 j hj
    · rw [b2, if_neg (by omega)]
/-! reset -/
theorem q_clr : ∀ (N i : Nat) (f : Nat → Int32), i ≤ 32 → 32 - i < N → ∃ f', qX1_clear_10 N (nI i) (nI 32, nI 4, 32 * 4, f) = some (nI 32, (nI 32, nI 4, 32 * 4, f')) ∧ ∀ k, f' k = if i * 4 ≤ k ∧ k < 128 ∧ k % 4 = 2 then m1 else f k := by
  intro N
  induction N with
  | zero => intro i f _ h; omega
  | succ N ih =>
    intro i f hi hN
    unfold qX1_clear_10
    rcases Nat.lt_or_ge i 32 with hlt | hge
    · simp (disch := omega) only [↓reduceIte, e_lt, e_bd, e_grd, e_clamp, e_l0, e_l1, e_l2, e_l3, e_l4, e_l5, e_l6, e_l7, e_l8, e_l9, e_l10, e_l12, e_l13, e_l20, e_l31, e_l32, e_l45, e_l48, e_l50, e_l57, e_l58, e_l59, e_l64, e_l70, e_l100, e_l106, e_l127, e_l138, e_l554, e_l799, e_l804, e_l1000, e_l2000, e_l2412, e_l100000, e_m1, nI_add, ni_mul, ni_sub, nI_clamp, e_ltT, e_ltF, e_leT, e_leF, e_eqT, e_eqF, e_mE, e_Em, e_mlt, e_mle, e_ltm, e_lem, e_gz, e_gt, e_bs, ite_self, e_el, e_er, tq_get, tq_set, tq_inc, tb_get_neg, tb_set_neg, and_true, true_and, and_false, false_and, not_false_eq_true, not_true_eq_false]
      obtain ⟨f', e1, e2⟩ := ih (i + 1) (upd f (i * 4 + 2) m1) (by omega) (by omega)
      refine ⟨f', e1, fun k => ?_⟩
      rw [e2 k]
      unfold upd
      by_cases q1 : k = i * 4 + 2
      · rw [if_neg (by omega), if_pos q1, if_pos (by omega)]
      · by_cases q2 : i * 4 ≤ k ∧ k < 128 ∧ k % 4 = 2
        · rw [if_pos (by omega), if_pos q2]
        · rw [if_neg (by omega), if_neg q1, if_neg q2]
    · have : i = 32 := by omega
      subst this
      simp (disch := omega) only [↓reduceIte, e_lt, e_bd, e_grd, e_clamp, e_l0, e_l1, e_l2, e_l3, e_l4, e_l5, e_l6, e_l7, e_l8, e_l9, e_l10, e_l12, e_l13, e_l20, e_l31, e_l32, e_l45, e_l48, e_l50, e_l57, e_l58, e_l59, e_l64, e_l70, e_l100, e_l106, e_l127, e_l138, e_l554, e_l799, e_l804, e_l1000, e_l2000, e_l2412, e_l100000, e_m1, nI_add, ni_mul, ni_sub, nI_clamp, e_ltT, e_ltF, e_leT, e_leF, e_eqT, e_eqF, e_mE, e_Em, e_mlt, e_mle, e_ltm, e_lem, e_gz, e_gt, e_bs, ite_self, e_el, e_er, tq_get, tq_set, tq_inc, tb_get_neg, tb_set_neg, and_true, true_and, and_false, false_and, not_false_eq_true, not_true_eq_false]
      exact ⟨f, rfl, fun k => by rw [if_neg (by omega)]⟩
theorem q_rclr {o : V11} (h1 : o.1.1 = 804) : ∀ (N i : Nat) (f : Nat → Int32), 138 ≤ i → i ≤ 554 → 554 - i < N → ∃ f', qX11_clears_4 o N (nI i) f = some (nI 554, f') ∧ ∀ k, f' k = if i ≤ k ∧ k < 554 then (if (k - 138) % 13 = 2 then m1 else nI 0) else f k := by
  intro N
  induction N with
  | zero => intro i f _ _ h; omega
  | succ N ih =>
    intro i f hi0 hi hN
    unfold qX11_clears_4
    rcases Nat.lt_or_ge i 554 with hlt | hge
    · have hx : (if nI (i - 138) - nI (i - 138) / nI 13 * nI 13 = nI 2 then (some m1 : Option Int32) else some (nI 0)) = some (if (i - 138) % 13 = 2 then m1 else nI 0) := by
        rw [pk_rem (by omega) (by decide) (by decide)]
        by_cases e : (i - 138) % 13 = 2
        · rw [if_pos e, if_pos (by rw [e])]
        · rw [if_neg e, if_neg (fun q => e ((nI_eq (by omega) (by decide)).mp q))]
      obtain ⟨f', e1, e2⟩ := ih (i + 1) (upd f i (if (i - 138) % 13 = 2 then m1 else nI 0)) (by omega) (by omega) (by omega)
      refine ⟨f', ?_, fun k => ?_⟩
      · rw [if_neg (by rw [e_l554]; exact nI_ge hlt (by decide))]
        rw [show nI i - (138 : Int32) = nI (i - 138) from ni_sub (b := 138) hi0]
        have hx : (if nI (i - 138) - nI (i - 138) / (13 : Int32) * (13 : Int32) = (2 : Int32) then (some (-1 : Int32) : Option Int32) else some (0 : Int32)) = some (if (i - 138) % 13 = 2 then m1 else nI 0) := hx
        rw [hx]
        simp (disch := omega) only [h1, e1, ↓reduceIte, e_lt, e_bd, e_grd, e_clamp, e_l0, e_l1, e_l2, e_l3, e_l4, e_l5, e_l6, e_l7, e_l8, e_l9, e_l10, e_l12, e_l13, e_l20, e_l31, e_l32, e_l45, e_l48, e_l50, e_l57, e_l58, e_l59, e_l64, e_l70, e_l100, e_l106, e_l127, e_l138, e_l554, e_l799, e_l804, e_l1000, e_l2000, e_l2412, e_l100000, e_m1, nI_add, ni_mul, ni_sub, nI_clamp, e_ltT, e_ltF, e_leT, e_leF, e_eqT, e_eqF, e_mE, e_Em, e_mlt, e_mle, e_ltm, e_lem, e_gz, e_gt, e_bs, ite_self, e_el, e_er, tq_get, tq_set, tq_inc, tb_get_neg, tb_set_neg, and_true, true_and, and_false, false_and, not_false_eq_true, not_true_eq_false] <;> rfl
      · rw [e2 k]
        unfold upd
        by_cases q1 : k = i
        · subst q1
          rw [if_neg (by omega), if_pos rfl, if_pos (show k ≤ k ∧ k < 554 by omega)]
        · by_cases q2 : i ≤ k ∧ k < 554
          · rw [if_pos (by omega), if_pos q2]
          · rw [if_neg (by omega), if_neg q1, if_neg q2]
    · have : i = 554 := by omega
      subst this
      simp (disch := omega) only [↓reduceIte, e_lt, e_bd, e_grd, e_clamp, e_l0, e_l1, e_l2, e_l3, e_l4, e_l5, e_l6, e_l7, e_l8, e_l9, e_l10, e_l12, e_l13, e_l20, e_l31, e_l32, e_l45, e_l48, e_l50, e_l57, e_l58, e_l59, e_l64, e_l70, e_l100, e_l106, e_l127, e_l138, e_l554, e_l799, e_l804, e_l1000, e_l2000, e_l2412, e_l100000, e_m1, nI_add, ni_mul, ni_sub, nI_clamp, e_ltT, e_ltF, e_leT, e_leF, e_eqT, e_eqF, e_mE, e_Em, e_mlt, e_mle, e_ltm, e_lem, e_gz, e_gt, e_bs, ite_self, e_el, e_er, tq_get, tq_set, tq_inc, tb_get_neg, tb_set_neg, and_true, true_and, and_false, false_and, not_false_eq_true, not_true_eq_false]
      exact ⟨f, rfl, fun k => by rw [if_neg (by omega)]⟩
theorem m_clears {N : Nat} {w : V11} (hz : w.1.1 = 804) (hN : 5000 ≤ N) : ∃ g, sX11_clears N w = some ((w.1.1, g), w.2) ∧ g 9 = nI 0 ∧ (∀ k, ¬ (k = 9 ∨ 138 ≤ k ∧ k < 554) → g k = w.1.2 k) ∧ ∀ k, 138 ≤ k → k < 554 → g k = if (k - 138) % 13 = 2 then m1 else nI 0 := by
  obtain ⟨f', e1, e2⟩ := q_rclr hz N 138 w.1.2 (by omega) (by omega) (by omega)
  refine ⟨upd f' 9 (nI 0), ?_, e_eq rfl, fun k hk => ?_, fun k h1 h2 => ?_⟩
  · simp (disch := omega) only [sX11_clears, e1, hz, ↓reduceIte, e_lt, e_bd, e_grd, e_clamp, e_l0, e_l1, e_l2, e_l3, e_l4, e_l5, e_l6, e_l7, e_l8, e_l9, e_l10, e_l12, e_l13, e_l20, e_l31, e_l32, e_l45, e_l48, e_l50, e_l57, e_l58, e_l59, e_l64, e_l70, e_l100, e_l106, e_l127, e_l138, e_l554, e_l799, e_l804, e_l1000, e_l2000, e_l2412, e_l100000, e_m1, nI_add, ni_mul, ni_sub, nI_clamp, e_ltT, e_ltF, e_leT, e_leF, e_eqT, e_eqF, e_mE, e_Em, e_mlt, e_mle, e_ltm, e_lem, e_gz, e_gt, e_bs, ite_self, e_el, e_er, tq_get, tq_set, tq_inc, tb_get_neg, tb_set_neg, and_true, true_and, and_false, false_and, not_false_eq_true, not_true_eq_false] <;> rfl
  · rw [e_ne (by omega), e2, if_neg (by omega)]
  · rw [e_ne (by omega), e2, if_pos (by omega)]
/-- cleared detectors -/
theorem c_clear {N : Nat} {v : V1} (h1 : TB 32 4 v.1) (hN : 5000 ≤ N) : ∃ f, sX1_clear N v = some ((nI 32, nI 4, 32 * 4, f), v.2) ∧ ∀ k, k < 128 → f k = if k % 4 = 2 then m1 else nI 0 := by
  obtain ⟨t', a1, a2, a3⟩ := tb_fill h1 (N := N) (nI 0) (by decide) (by omega)
  obtain ⟨f, rfl⟩ := a2.ex
  obtain ⟨f', b1, b2⟩ := q_clr N 0 f (by omega) (by omega)
  refine ⟨f', ?_, fun k hk => ?_⟩
  · simp (disch := omega) only [sX1_clear, a1, b1, ↓reduceIte, e_lt, e_bd, e_grd, e_clamp, e_l0, e_l1, e_l2, e_l3, e_l4, e_l5, e_l6, e_l7, e_l8, e_l9, e_l10, e_l12, e_l13, e_l20, e_l31, e_l32, e_l45, e_l48, e_l50, e_l57, e_l58, e_l59, e_l64, e_l70, e_l100, e_l106, e_l127, e_l138, e_l554, e_l799, e_l804, e_l1000, e_l2000, e_l2412, e_l100000, e_m1, nI_add, ni_mul, ni_sub, nI_clamp, e_ltT, e_ltF, e_leT, e_leF, e_eqT, e_eqF, e_mE, e_Em, e_mlt, e_mle, e_ltm, e_lem, e_gz, e_gt, e_bs, ite_self, e_el, e_er, tq_get, tq_set, tq_inc, tb_get_neg, tb_set_neg, and_true, true_and, and_false, false_and, not_false_eq_true, not_true_eq_false] <;> rfl
  · rw [b2]
    by_cases q : k % 4 = 2
    · rw [if_pos (by omega), if_pos q]
    · rw [if_neg (by omega), if_neg q]
      have := a3 k
      rw [if_pos (by omega)] at this
      exact this
theorem det_clear {f : Nat → Int32} {v2 v3 : V9} {g : Nat → Int32} {t : Nat} (h2 : TB 32 8 v2) (h3 : TB 32 1 v3) (hm : ∀ c, c < 32 → v3.2.2.2 (c * 1 + 0) = g (106 + c)) (hf : ∀ k, k < 128 → f k = if k % 4 = 2 then m1 else nI 0) (hg : ∀ k, 138 ≤ k → k < 554 → g k = if (k - 138) % 13 = 2 then m1 else nI 0) : Rdet ((nI 32, nI 4, 32 * 4, f), v2, v3) g t := by
  refine ⟨TB.mk 32 4 f, h2, h3, hm, fun c j hc hj => ?_, fun c hc => ⟨0, by omega, ?_, ?_, fun j hj => by omega⟩⟩
  · show f (c * 4 + j) = _
    rw [hf _ (by omega), hg _ (by omega) (by omega)]
    by_cases e : j = 2
    · rw [if_pos (by omega), if_pos (by omega)]
    · rw [if_neg (by omega), if_neg (by omega)]
  · rw [hg _ (by omega) (by omega), if_neg (by omega)]
  · rw [hg _ (by omega) (by omega), if_neg (by omega)]
    rfl
theorem pu_reset {N : Nat} (hN : 5000 ≤ N) : PU_reset RR N := by
  intro cn v w hcn h
  have hz : w.1.1 = 804 := h.1.1
  obtain ⟨hv, sv, m, e1, e2, e3⟩ := sv_both h hN (nI 0)
  obtain ⟨-, -, ⟨t1, t2, t, t3, t4, t5, t6, t7⟩, -⟩ := id h
  obtain ⟨f, a1, a2⟩ := c_clear (v := v.2.2.1.2.2.1) t5.1 hN
  obtain ⟨u, b1, b2, b3⟩ := tb_fill t6.2.2.1 (N := N) m1 (by decide) (by omega)
  obtain ⟨g, c1, c2, c3, c4⟩ := m_clears (w := ((w.1.1, w.1.2), (w.2.1.1, sv), nI m, nI 0, w.2.2.2.2)) hz hN
  have c3 : ∀ k, ¬ (k = 9 ∨ 138 ≤ k ∧ k < 554) → g k = w.1.2 k := c3
  refine ⟨(v.2.2.1.2.2.2.1.2.2.2, (v.1, v.2.1, (v.2.2.1.1, v.2.2.1.2.1, ((nI 32, nI 4, 32 * 4, f), v.2.2.1.2.2.1.2), (v.2.2.1.2.2.2.1.1, v.2.2.1.2.2.2.1.2.1, u, nI 0), v.2.2.1.2.2.2.2), hv, v.2.2.2.2.1, v.2.2.2.2.2)), (w.1.2 9, ((w.1.1, g), (w.2.1.1, sv), nI m, nI 0, w.2.2.2.2)), ?_, ?_, ?_, ?_⟩
  · simp (disch := omega) only [sX10_reset, e1, a1, sX2_clear, b1, ↓reduceIte, e_lt, e_bd, e_grd, e_clamp, e_l0, e_l1, e_l2, e_l3, e_l4, e_l5, e_l6, e_l7, e_l8, e_l9, e_l10, e_l12, e_l13, e_l20, e_l31, e_l32, e_l45, e_l48, e_l50, e_l57, e_l58, e_l59, e_l64, e_l70, e_l100, e_l106, e_l127, e_l138, e_l554, e_l799, e_l804, e_l1000, e_l2000, e_l2412, e_l100000, e_m1, nI_add, ni_mul, ni_sub, nI_clamp, e_ltT, e_ltF, e_leT, e_leF, e_eqT, e_eqF, e_mE, e_Em, e_mlt, e_mle, e_ltm, e_lem, e_gz, e_gt, e_bs, ite_self, e_el, e_er, tq_get, tq_set, tq_inc, tb_get_neg, tb_set_neg, and_true, true_and, and_false, false_and, not_false_eq_true, not_true_eq_false] <;> rfl
  · have e2 : sX11_save N (w.1, w.2.1, w.2.2.1, nI 0, w.2.2.2.2.1, w.2.2.2.2.2.1, w.2.2.2.2.2.2.1, w.2.2.2.2.2.2.2.1, w.2.2.2.2.2.2.2.2.1, w.2.2.2.2.2.2.2.2.2.1, w.2.2.2.2.2.2.2.2.2.2.1, w.2.2.2.2.2.2.2.2.2.2.2.1, w.2.2.2.2.2.2.2.2.2.2.2.2.1, w.2.2.2.2.2.2.2.2.2.2.2.2.2) = some ((w.1.1, w.1.2), (w.2.1.1, sv), nI m, nI 0, w.2.2.2.2) := e2
    simp only [hz] at e2 c1
    simp (disch := omega) only [sX11_reset, e2, c1, hz, ↓reduceIte, e_lt, e_bd, e_grd, e_clamp, e_l0, e_l1, e_l2, e_l3, e_l4, e_l5, e_l6, e_l7, e_l8, e_l9, e_l10, e_l12, e_l13, e_l20, e_l31, e_l32, e_l45, e_l48, e_l50, e_l57, e_l58, e_l59, e_l64, e_l70, e_l100, e_l106, e_l127, e_l138, e_l554, e_l799, e_l804, e_l1000, e_l2000, e_l2412, e_l100000, e_m1, nI_add, ni_mul, ni_sub, nI_clamp, e_ltT, e_ltF, e_leT, e_leF, e_eqT, e_eqF, e_mE, e_Em, e_mlt, e_mle, e_ltm, e_lem, e_gz, e_gt, e_bs, ite_self, e_el, e_er, tq_get, tq_set, tq_inc, tb_get_neg, tb_set_neg, and_true, true_and, and_false, false_and, not_false_eq_true, not_true_eq_false] <;> rfl
  · obtain ⟨-, -, -, n, od, -, q1, q2, -⟩ := t6
    exact q1.trans q2.symm
  · refine RR.up h ⟨Rsig_cg (fun k hk => (c3 k (by omega)).symm) t1, Rpl_cg (fun k hk => (c3 k (by omega)).symm) t2, t, by omega, (c3 0 (by omega)).trans t4, ?_, ?_, Rnum_cg (fun k hk => (c3 k (by omega)).symm) t7⟩ e3
    · exact det_clear t5.2.1 t5.2.2.1 (fun c hc => (t5.2.2.2.1 c hc).trans (c3 _ (by omega)).symm) a2 c4
    · obtain ⟨q1, q2, q3, n, od, q4, q5, q6, q7, q8, -⟩ := t6
      refine ⟨q1, q2, b2, 0, od, by omega, rfl, c2, q7, q8, fun e j he => by omega, fun e he => by omega, fun c hc => Or.inl ⟨?_, fun e he => by omega⟩⟩
      have := b3 (c * 1 + 0)
      rw [if_pos (by omega)] at this
      exact this
