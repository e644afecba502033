/-! a hit in an open event -/
theorem ev_set {f o p : Nat → Int32} {n T e : Nat} {od : Nat → Nat} {g : Nat → Int32} (h : RE f o p n od g T) (he : e < n) {l : Nat} (hl : l ≤ 100) :
    RE (upd (upd f (od e * 5 + 2) (nI T)) (od e * 5 + 3) (nI l)) o p n od (upd (upd g (554 + 5 * e + 2) (nI T)) (554 + 5 * e + 3) (nI l)) T := by
  obtain ⟨h1, h2, h3, h4, h5, h6, h7⟩ := id h
  have hE : ∀ e' j, j < 5 → ¬ (e' = e ∧ (j = 2 ∨ j = 3)) → EV (upd (upd g (554 + 5 * e + 2) (nI T)) (554 + 5 * e + 3) (nI l)) e' j = EV g e' j := by
    intro e' j hj q
    rw [EV_ne (by omega) hj (by omega), EV_ne (by omega) hj (by omega)]
  refine ⟨h1, ?_, h3, h4, fun e' j he' hj => ?_, fun e' he' => ?_, fun c' hc' => ?_⟩
  · rw [e_ne (by omega), e_ne (by omega)]
    exact h2
  · have hn : e' ≠ e → od e' ≠ od e := fun q z => q (h.inj (by omega) (by omega) z)
    by_cases q : e' = e
    · subst q
      by_cases q3 : j = 3
      · subst q3
        rw [e_eq rfl, EV_eq rfl rfl]
      · by_cases q2 : j = 2
        · subst q2
          rw [e_ne (by omega), e_eq rfl, EV_ne (by omega) hj (by omega), EV_eq rfl rfl]
        · rw [e_ne (by omega), e_ne (by omega), hE e' j hj (by omega)]
          exact h5 e' j he' hj
    · have := hn q
      rw [e_ne (by omega), e_ne (by omega), hE e' j hj (by omega)]
      exact h5 e' j he' hj
  · obtain ⟨c1, c2, c3, c4, c5⟩ := h6 e' he'
    unfold evOk
    rw [hE e' 0 (by omega) (by omega), hE e' 1 (by omega) (by omega), hE e' 4 (by omega) (by omega)]
    by_cases q : e' = e
    · subst q
      refine ⟨c1, c2, ⟨T, Nat.le_refl _, ?_⟩, ⟨l, hl, EV_eq rfl rfl⟩, c5⟩
      rw [EV_ne (by omega) (by omega) (by omega), EV_eq rfl rfl]
    · rw [hE e' 2 (by omega) (by omega), hE e' 3 (by omega) (by omega)]
      exact ⟨c1, c2, c3, c4, c5⟩
  · rcases h7 c' hc' with ⟨g1, g2⟩ | ⟨e2, g1, g2, g3, g4, g5⟩
    · refine Or.inl ⟨g1, fun e' he' z => ?_⟩
      rw [hE e' 4 (by omega) (by omega)] at z
      rw [hE e' 0 (by omega) (by omega)]
      exact g2 e' he' z
    · refine Or.inr ⟨e2, g1, g2, ?_, ?_, fun e' he' z z2 => ?_⟩
      · rw [hE e2 0 (by omega) (by omega)]; exact g3
      · rw [hE e2 4 (by omega) (by omega)]; exact g4
      · rw [hE e' 4 (by omega) (by omega)] at z
        rw [hE e' 0 (by omega) (by omega)] at z2
        exact g5 e' he' z z2
theorem ev_hit1 {f o p : Nat → Int32} {n T c N e l : Nat} {od : Nat → Nat} {w : V11} (hz : w.1.1 = 804) (hN : 5000 ≤ N) (hc : c < 32) (h0 : w.1.2 0 = nI T) (hl : l ≤ 100) (h : RE f o p n od w.1.2 T) (b1 : e < n) (b2 : p (c * 1 + 0) = nI (od e)) (b3 : EV w.1.2 e 0 = nI c) (b4 : EV w.1.2 e 4 = nI 1) (b5 : ∀ e', e' < n → EV w.1.2 e' 4 = nI 1 → EV w.1.2 e' 0 = nI c → e' = e) :
    ∃ f' g', sX2_noteHit N (lgv f o p n) (nI c) (nI T) (nI l) = some (lgv f' o p n) ∧ sX11_hits N w (nI c) (nI l) = some ((w.1.1, g'), w.2) ∧ RE f' o p n od g' T ∧ ∀ k, ¬ (554 ≤ k ∧ k < 804) → g' k = w.1.2 k := by
  obtain ⟨h1, h2, h3, h4, h5, h6, h7⟩ := id h
  have hm := m_open1 hz h2 h1 hN b1 b3 b4 b5
  obtain ⟨d1, -⟩ := h3 e (by omega)
  obtain ⟨-, -, -, ⟨pk, hpk, epk⟩, -⟩ := h6 e b1
  have kp : f (od e * 5 + 3) = nI pk := (h5 e 3 b1 (by omega)).trans epk
  have gp : w.1.2 (554 + 5 * e + 3) = nI pk := epk
  by_cases q : l ≤ pk
  · have r := ev_set (l := pk) h b1 hpk
    have s1 : upd (upd f (od e * 5 + 2) (nI T)) (od e * 5 + 3) (nI pk) = upd f (od e * 5 + 2) (nI T) := fa_upd_same (by rw [e_ne (by omega)]; exact kp)
    rw [s1] at r
    refine ⟨_, _, ?_, ?_, r, fun k hk => by rw [e_ne (by omega), e_ne (by omega)]⟩
    · simp (disch := omega) only [lgv, sX2_noteHit, b2, e_ne, kp, ↓reduceIte, e_lt, e_bd, e_grd, e_clamp, e_l0, e_l1, e_l2, e_l3, e_l4, e_l5, e_l6, e_l7, e_l8, e_l9, e_l10, e_l12, e_l13, e_l20, e_l31, e_l32, e_l45, e_l48, e_l50, e_l57, e_l58, e_l59, e_l64, e_l70, e_l100, e_l106, e_l127, e_l138, e_l554, e_l799, e_l804, e_l1000, e_l2000, e_l2412, e_l100000, e_m1, nI_add, ni_mul, ni_sub, nI_clamp, e_ltT, e_ltF, e_leT, e_leF, e_eqT, e_eqF, e_mE, e_Em, e_mlt, e_mle, e_ltm, e_lem, e_gz, e_gt, e_bs, ite_self, e_el, e_er, tq_get, tq_set, tq_inc, tb_get_neg, tb_set_neg, and_true, true_and, and_false, false_and, not_false_eq_true, not_true_eq_false] <;> rfl
    · simp (disch := omega) only [sX11_hits, hm, sX11_eventAt, hz, h0, e_ne, gp, ↓reduceIte, e_lt, e_bd, e_grd, e_clamp, e_l0, e_l1, e_l2, e_l3, e_l4, e_l5, e_l6, e_l7, e_l8, e_l9, e_l10, e_l12, e_l13, e_l20, e_l31, e_l32, e_l45, e_l48, e_l50, e_l57, e_l58, e_l59, e_l64, e_l70, e_l100, e_l106, e_l127, e_l138, e_l554, e_l799, e_l804, e_l1000, e_l2000, e_l2412, e_l100000, e_m1, nI_add, ni_mul, ni_sub, nI_clamp, e_ltT, e_ltF, e_leT, e_leF, e_eqT, e_eqF, e_mE, e_Em, e_mlt, e_mle, e_ltm, e_lem, e_gz, e_gt, e_bs, ite_self, e_el, e_er, tq_get, tq_set, tq_inc, tb_get_neg, tb_set_neg, and_true, true_and, and_false, false_and, not_false_eq_true, not_true_eq_false] <;> rfl
  · have r := ev_set (l := l) h b1 hl
    refine ⟨_, _, ?_, ?_, r, fun k hk => by rw [e_ne (by omega), e_ne (by omega)]⟩
    · simp (disch := omega) only [lgv, sX2_noteHit, b2, e_ne, kp, ↓reduceIte, e_lt, e_bd, e_grd, e_clamp, e_l0, e_l1, e_l2, e_l3, e_l4, e_l5, e_l6, e_l7, e_l8, e_l9, e_l10, e_l12, e_l13, e_l20, e_l31, e_l32, e_l45, e_l48, e_l50, e_l57, e_l58, e_l59, e_l64, e_l70, e_l100, e_l106, e_l127, e_l138, e_l554, e_l799, e_l804, e_l1000, e_l2000, e_l2412, e_l100000, e_m1, nI_add, ni_mul, ni_sub, nI_clamp, e_ltT, e_ltF, e_leT, e_leF, e_eqT, e_eqF, e_mE, e_Em, e_mlt, e_mle, e_ltm, e_lem, e_gz, e_gt, e_bs, ite_self, e_el, e_er, tq_get, tq_set, tq_inc, tb_get_neg, tb_set_neg, and_true, true_and, and_false, false_and, not_false_eq_true, not_true_eq_false] <;> rfl
    · simp (disch := omega) only [sX11_hits, hm, sX11_eventAt, hz, h0, e_ne, gp, ↓reduceIte, e_lt, e_bd, e_grd, e_clamp, e_l0, e_l1, e_l2, e_l3, e_l4, e_l5, e_l6, e_l7, e_l8, e_l9, e_l10, e_l12, e_l13, e_l20, e_l31, e_l32, e_l45, e_l48, e_l50, e_l57, e_l58, e_l59, e_l64, e_l70, e_l100, e_l106, e_l127, e_l138, e_l554, e_l799, e_l804, e_l1000, e_l2000, e_l2412, e_l100000, e_m1, nI_add, ni_mul, ni_sub, nI_clamp, e_ltT, e_ltF, e_leT, e_leF, e_eqT, e_eqF, e_mE, e_Em, e_mlt, e_mle, e_ltm, e_lem, e_gz, e_gt, e_bs, ite_self, e_el, e_er, tq_get, tq_set, tq_inc, tb_get_neg, tb_set_neg, and_true, true_and, and_false, false_and, not_false_eq_true, not_true_eq_false] <;> rfl
/-! a new event -/
abbrev evrow (g : Nat → Int32) (n c T l : Nat) : Nat → Int32 := upd (upd (upd (upd (upd (upd (upd g 9 (nI (n + 1))) (554 + 5 * n + 0) (nI c)) (554 + 5 * n + 1) (nI T)) (554 + 5 * n + 3) (nI l)) (554 + 5 * n + 4) (nI 1)) (554 + 5 * n + 2) (nI T)) (554 + 5 * n + 3) (nI l)
theorem ev_new {f o p : Nat → Int32} {n T c l : Nat} {od : Nat → Nat} {g : Nat → Int32} (hc : c < 32) (hl : l ≤ 100) (h : RE f o p n od g T) (hn : n < 50) (hno : ∀ e, e < n → EV g e 4 = nI 1 → EV g e 0 ≠ nI c) :
    RE (upd (upd (upd (upd (upd f (od n * 5 + 0) (nI c)) (od n * 5 + 1) (nI T)) (od n * 5 + 2) (nI T)) (od n * 5 + 3) (nI l)) (od n * 5 + 4) (nI 1)) o (upd p (c * 1 + 0) (nI (od n))) (n + 1) od (evrow g n c T l) T := by
  obtain ⟨h1, h2, h3, h4, h5, h6, h7⟩ := id h
  have hE : ∀ e' j, j < 5 → ¬ e' = n → EV (evrow g n c T l) e' j = EV g e' j := by
    intro e' j hj q
    unfold EV evrow
    simp (disch := omega) only [e_ne]
  have n0 : EV (evrow g n c T l) n 0 = nI c := by
    unfold EV evrow
    simp (disch := omega) only [e_ne, e_eq]
  have n1 : EV (evrow g n c T l) n 1 = nI T := by
    unfold EV evrow
    simp (disch := omega) only [e_ne, e_eq]
  have n2 : EV (evrow g n c T l) n 2 = nI T := by
    unfold EV evrow
    simp (disch := omega) only [e_ne, e_eq]
  have n3 : EV (evrow g n c T l) n 3 = nI l := by
    unfold EV evrow
    simp (disch := omega) only [e_ne, e_eq]
  have n4 : EV (evrow g n c T l) n 4 = nI 1 := by
    unfold EV evrow
    simp (disch := omega) only [e_ne, e_eq]
  obtain ⟨dn, -⟩ := h3 n hn
  refine ⟨by omega, ?_, h3, h4, fun e' j he' hj => ?_, fun e' he' => ?_, fun c' hc' => ?_⟩
  · simp (disch := omega) only [evrow, e_ne, e_eq]
  · by_cases q : e' = n
    · subst q
      rcases (show j = 0 ∨ j = 1 ∨ j = 2 ∨ j = 3 ∨ j = 4 by omega) with rfl | rfl | rfl | rfl | rfl
      · rw [n0]; simp (disch := omega) only [e_ne, e_eq]
      · rw [n1]; simp (disch := omega) only [e_ne, e_eq]
      · rw [n2]; simp (disch := omega) only [e_ne, e_eq]
      · rw [n3]; simp (disch := omega) only [e_ne, e_eq]
      · rw [n4]; simp (disch := omega) only [e_ne, e_eq]
    · have : od e' ≠ od n := fun z => q (h.inj (by omega) (by omega) z)
      rw [hE e' j hj q]
      simp (disch := omega) only [e_ne]
      exact h5 e' j (by omega) hj
  · by_cases q : e' = n
    · subst q
      exact ⟨⟨c, hc, n0⟩, ⟨T, Nat.le_refl _, n1⟩, ⟨T, Nat.le_refl _, n2⟩, ⟨l, hl, n3⟩, Or.inr n4⟩
    · have r := h6 e' (by omega)
      unfold evOk at r ⊢
      rw [hE e' 0 (by omega) q, hE e' 1 (by omega) q, hE e' 2 (by omega) q, hE e' 3 (by omega) q, hE e' 4 (by omega) q]
      exact r
  · by_cases qc : c' = c
    · subst qc
      refine Or.inr ⟨n, by omega, e_eq rfl, n0, n4, fun e' he' z z2 => ?_⟩
      by_cases q : e' = n
      · exact q
      · rw [hE e' 4 (by omega) q] at z
        rw [hE e' 0 (by omega) q] at z2
        exact absurd z2 (hno e' (by omega) z)
    · rw [e_ne (by omega)]
      have hcn : nI c ≠ nI c' := fun z => qc ((nI_eq (by omega) (by omega)).mp z.symm)
      rcases h7 c' hc' with ⟨g1, g2⟩ | ⟨e2, g1, g2, g3, g4, g5⟩
      · refine Or.inl ⟨g1, fun e' he' z => ?_⟩
        by_cases q : e' = n
        · subst q
          rw [n0]
          exact hcn
        · rw [hE e' 4 (by omega) q] at z
          rw [hE e' 0 (by omega) q]
          exact g2 e' (by omega) z
      · refine Or.inr ⟨e2, by omega, g2, ?_, ?_, fun e' he' z z2 => ?_⟩
        · rw [hE e2 0 (by omega) (by omega)]; exact g3
        · rw [hE e2 4 (by omega) (by omega)]; exact g4
        · by_cases q : e' = n
          · subst q
            rw [n0] at z2
            exact absurd z2 hcn
          · rw [hE e' 4 (by omega) q] at z
            rw [hE e' 0 (by omega) q] at z2
            exact g5 e' (by omega) z z2
theorem c_open {f o p : Nat → Int32} {n c T l : Nat} {od : Nat → Nat} (hc : c < 32) (hn : n < 50) (ho : o n = nI (od n)) (hd : od n < 50) : sX2_open (lgv f o p n) (nI c) (nI T) (nI l) = some (lgv (upd (upd (upd (upd (upd f (od n * 5 + 0) (nI c)) (od n * 5 + 1) (nI T)) (od n * 5 + 2) (nI T)) (od n * 5 + 3) (nI l)) (od n * 5 + 4) (nI 1)) o (upd p (c * 1 + 0) (nI (od n))) (n + 1)) := by
  simp (disch := omega) only [lgv, sX2_open, c_within, ho, ↓reduceIte, e_lt, e_bd, e_grd, e_clamp, e_l0, e_l1, e_l2, e_l3, e_l4, e_l5, e_l6, e_l7, e_l8, e_l9, e_l10, e_l12, e_l13, e_l20, e_l31, e_l32, e_l45, e_l48, e_l50, e_l57, e_l58, e_l59, e_l64, e_l70, e_l100, e_l106, e_l127, e_l138, e_l554, e_l799, e_l804, e_l1000, e_l2000, e_l2412, e_l100000, e_m1, nI_add, ni_mul, ni_sub, nI_clamp, e_ltT, e_ltF, e_leT, e_leF, e_eqT, e_eqF, e_mE, e_Em, e_mlt, e_mle, e_ltm, e_lem, e_gz, e_gt, e_bs, ite_self, e_el, e_er, tq_get, tq_set, tq_inc, tb_get_neg, tb_set_neg, and_true, true_and, and_false, false_and, not_false_eq_true, not_true_eq_false] <;> rfl
theorem ev_hit2 {f o p : Nat → Int32} {n T c N l : Nat} {od : Nat → Nat} {w : V11} (hz : w.1.1 = 804) (hN : 5000 ≤ N) (hc : c < 32) (h0 : w.1.2 0 = nI T) (hl : l ≤ 100) (h : RE f o p n od w.1.2 T) (hn : n < 50) (b1 : p (c * 1 + 0) = m1) (b2 : ∀ e, e < n → EV w.1.2 e 4 = nI 1 → EV w.1.2 e 0 ≠ nI c) :
    ∃ f' p' g', sX2_noteHit N (lgv f o p n) (nI c) (nI T) (nI l) = some (lgv f' o p' (n + 1)) ∧ sX11_hits N w (nI c) (nI l) = some ((w.1.1, g'), w.2) ∧ RE f' o p' (n + 1) od g' T ∧ ∀ k, ¬ (k = 9 ∨ 554 ≤ k ∧ k < 804) → g' k = w.1.2 k := by
  obtain ⟨h1, h2, h3, h4, h5, h6, h7⟩ := id h
  have hm := m_open0 hz h2 h1 hN b2
  obtain ⟨d1, d2⟩ := h3 n hn
  have hop := c_open (f := f) (p := p) (c := c) (T := T) (l := l) hc hn d2 d1
  refine ⟨_, _, _, ?_, ?_, ev_new hc hl h hn b2, fun k hk => by simp (disch := omega) only [evrow, e_ne]⟩
  · have hd : sX2_dropIfFull N (lgv f o p n) = some (lgv f o p n) := by simp (disch := omega) only [lgv, sX2_dropIfFull, ↓reduceIte, e_lt, e_bd, e_grd, e_clamp, e_l0, e_l1, e_l2, e_l3, e_l4, e_l5, e_l6, e_l7, e_l8, e_l9, e_l10, e_l12, e_l13, e_l20, e_l31, e_l32, e_l45, e_l48, e_l50, e_l57, e_l58, e_l59, e_l64, e_l70, e_l100, e_l106, e_l127, e_l138, e_l554, e_l799, e_l804, e_l1000, e_l2000, e_l2412, e_l100000, e_m1, nI_add, ni_mul, ni_sub, nI_clamp, e_ltT, e_ltF, e_leT, e_leF, e_eqT, e_eqF, e_mE, e_Em, e_mlt, e_mle, e_ltm, e_lem, e_gz, e_gt, e_bs, ite_self, e_el, e_er, tq_get, tq_set, tq_inc, tb_get_neg, tb_set_neg, and_true, true_and, and_false, false_and, not_false_eq_true, not_true_eq_false] <;> rfl
    have b1' : sX9_get (lgv f o p n).2.2.1 (nI c) (nI 0) = some m1 := by
      simp (disch := omega) only [lgv, b1, ↓reduceIte, e_lt, e_bd, e_grd, e_clamp, e_l0, e_l1, e_l2, e_l3, e_l4, e_l5, e_l6, e_l7, e_l8, e_l9, e_l10, e_l12, e_l13, e_l20, e_l31, e_l32, e_l45, e_l48, e_l50, e_l57, e_l58, e_l59, e_l64, e_l70, e_l100, e_l106, e_l127, e_l138, e_l554, e_l799, e_l804, e_l1000, e_l2000, e_l2412, e_l100000, e_m1, nI_add, ni_mul, ni_sub, nI_clamp, e_ltT, e_ltF, e_leT, e_leF, e_eqT, e_eqF, e_mE, e_Em, e_mlt, e_mle, e_ltm, e_lem, e_gz, e_gt, e_bs, ite_self, e_el, e_er, tq_get, tq_set, tq_inc, tb_get_neg, tb_set_neg, and_true, true_and, and_false, false_and, not_false_eq_true, not_true_eq_false] <;> rfl
    simp (disch := omega) only [sX2_noteHit, b1', hd, hop, ↓reduceIte, e_lt, e_bd, e_grd, e_clamp, e_l0, e_l1, e_l2, e_l3, e_l4, e_l5, e_l6, e_l7, e_l8, e_l9, e_l10, e_l12, e_l13, e_l20, e_l31, e_l32, e_l45, e_l48, e_l50, e_l57, e_l58, e_l59, e_l64, e_l70, e_l100, e_l106, e_l127, e_l138, e_l554, e_l799, e_l804, e_l1000, e_l2000, e_l2412, e_l100000, e_m1, nI_add, ni_mul, ni_sub, nI_clamp, e_ltT, e_ltF, e_leT, e_leF, e_eqT, e_eqF, e_mE, e_Em, e_mlt, e_mle, e_ltm, e_lem, e_gz, e_gt, e_bs, ite_self, e_el, e_er, tq_get, tq_set, tq_inc, tb_get_neg, tb_set_neg, and_true, true_and, and_false, false_and, not_false_eq_true, not_true_eq_false] <;> rfl
  · simp (disch := omega) only [sX11_hits, hm, h2, sX11_eventAt, hz, h0, e_ne, e_eq, ↓reduceIte, e_lt, e_bd, e_grd, e_clamp, e_l0, e_l1, e_l2, e_l3, e_l4, e_l5, e_l6, e_l7, e_l8, e_l9, e_l10, e_l12, e_l13, e_l20, e_l31, e_l32, e_l45, e_l48, e_l50, e_l57, e_l58, e_l59, e_l64, e_l70, e_l100, e_l106, e_l127, e_l138, e_l554, e_l799, e_l804, e_l1000, e_l2000, e_l2412, e_l100000, e_m1, nI_add, ni_mul, ni_sub, nI_clamp, e_ltT, e_ltF, e_leT, e_leF, e_eqT, e_eqF, e_mE, e_Em, e_mlt, e_mle, e_ltm, e_lem, e_gz, e_gt, e_bs, ite_self, e_el, e_er, tq_get, tq_set, tq_inc, tb_get_neg, tb_set_neg, and_true, true_and, and_false, false_and, not_false_eq_true, not_true_eq_false] <;> rfl
