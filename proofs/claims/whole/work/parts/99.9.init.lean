/-! the start: both constructors, and the invariant after no call -/
theorem i_42 : ∀ (N i : Nat) (f : Nat → Int32), i ≤ 50 → 50 - i < N → ∃ f', qX2_init_42 N (nI i) f = some (nI 50, f') ∧ ∀ k, f' k = if i ≤ k ∧ k < 50 then nI k else f k
  | 0, _, _, _, hn => by omega
  | N + 1, i, f, hi, hn => by
    by_cases q : i = 50
    · subst q
      refine ⟨f, ?_, fun k => (if_neg (by omega)).symm⟩
      simp (disch := omega) only [qX2_init_42, ↓reduceIte, e_lt, e_bd, e_grd, e_clamp, e_l0, e_l1, e_l2, e_l3, e_l4, e_l5, e_l6, e_l7, e_l8, e_l9, e_l10, e_l12, e_l13, e_l20, e_l31, e_l32, e_l45, e_l48, e_l50, e_l57, e_l58, e_l59, e_l64, e_l70, e_l100, e_l106, e_l127, e_l138, e_l554, e_l799, e_l804, e_l1000, e_l2000, e_l2412, e_l100000, e_m1, nI_add, ni_mul, ni_sub, nI_clamp, e_ltT, e_ltF, e_leT, e_leF, e_eqT, e_eqF, e_mE, e_Em, e_mlt, e_mle, e_ltm, e_lem, e_gz, e_gt, e_bs, ite_self, e_el, e_er, tq_get, tq_set, tq_inc, tb_get_neg, tb_set_neg, and_true, true_and, and_false, false_and, not_false_eq_true, not_true_eq_false] <;> rfl
    · obtain ⟨f', a1, a2⟩ := i_42 N (i + 1) (upd f i (nI i)) (by omega) (by omega)
      refine ⟨f', ?_, fun k => ?_⟩
      · simp (disch := omega) only [qX2_init_42, a1, ↓reduceIte, e_lt, e_bd, e_grd, e_clamp, e_l0, e_l1, e_l2, e_l3, e_l4, e_l5, e_l6, e_l7, e_l8, e_l9, e_l10, e_l12, e_l13, e_l20, e_l31, e_l32, e_l45, e_l48, e_l50, e_l57, e_l58, e_l59, e_l64, e_l70, e_l100, e_l106, e_l127, e_l138, e_l554, e_l799, e_l804, e_l1000, e_l2000, e_l2412, e_l100000, e_m1, nI_add, ni_mul, ni_sub, nI_clamp, e_ltT, e_ltF, e_leT, e_leF, e_eqT, e_eqF, e_mE, e_Em, e_mlt, e_mle, e_ltm, e_lem, e_gz, e_gt, e_bs, ite_self, e_el, e_er, tq_get, tq_set, tq_inc, tb_get_neg, tb_set_neg, and_true, true_and, and_false, false_and, not_false_eq_true, not_true_eq_false] <;> rfl
      · rw [a2]
        by_cases z : i + 1 ≤ k ∧ k < 50
        · rw [if_pos z, if_pos (by omega)]
        · rw [if_neg z]
          by_cases z2 : k = i
          · rw [e_eq z2, if_pos (by omega), z2]
          · rw [e_ne z2, if_neg (by omega)]
theorem i_79 : ∀ (N i : Nat) (f : Nat → Int32), i ≤ 32 → 32 - i < N → ∃ f', qX11_init_79 N (nI i) f = some (nI 32, f') ∧ ∀ k, f' k = if 106 + i ≤ k ∧ k < 138 then nI 100 else f k
  | 0, _, _, _, hn => by omega
  | N + 1, i, f, hi, hn => by
    by_cases q : i = 32
    · subst q
      refine ⟨f, ?_, fun k => (if_neg (by omega)).symm⟩
      simp (disch := omega) only [qX11_init_79, ↓reduceIte, e_lt, e_bd, e_grd, e_clamp, e_l0, e_l1, e_l2, e_l3, e_l4, e_l5, e_l6, e_l7, e_l8, e_l9, e_l10, e_l12, e_l13, e_l20, e_l31, e_l32, e_l45, e_l48, e_l50, e_l57, e_l58, e_l59, e_l64, e_l70, e_l100, e_l106, e_l127, e_l138, e_l554, e_l799, e_l804, e_l1000, e_l2000, e_l2412, e_l100000, e_m1, nI_add, ni_mul, ni_sub, nI_clamp, e_ltT, e_ltF, e_leT, e_leF, e_eqT, e_eqF, e_mE, e_Em, e_mlt, e_mle, e_ltm, e_lem, e_gz, e_gt, e_bs, ite_self, e_el, e_er, tq_get, tq_set, tq_inc, tb_get_neg, tb_set_neg, and_true, true_and, and_false, false_and, not_false_eq_true, not_true_eq_false] <;> rfl
    · obtain ⟨f', a1, a2⟩ := i_79 N (i + 1) (upd f (106 + i) (nI 100)) (by omega) (by omega)
      refine ⟨f', ?_, fun k => ?_⟩
      · simp (disch := omega) only [qX11_init_79, a1, ↓reduceIte, e_lt, e_bd, e_grd, e_clamp, e_l0, e_l1, e_l2, e_l3, e_l4, e_l5, e_l6, e_l7, e_l8, e_l9, e_l10, e_l12, e_l13, e_l20, e_l31, e_l32, e_l45, e_l48, e_l50, e_l57, e_l58, e_l59, e_l64, e_l70, e_l100, e_l106, e_l127, e_l138, e_l554, e_l799, e_l804, e_l1000, e_l2000, e_l2412, e_l100000, e_m1, nI_add, ni_mul, ni_sub, nI_clamp, e_ltT, e_ltF, e_leT, e_leF, e_eqT, e_eqF, e_mE, e_Em, e_mlt, e_mle, e_ltm, e_lem, e_gz, e_gt, e_bs, ite_self, e_el, e_er, tq_get, tq_set, tq_inc, tb_get_neg, tb_set_neg, and_true, true_and, and_false, false_and, not_false_eq_true, not_true_eq_false] <;> rfl
      · rw [a2]
        by_cases z : 106 + (i + 1) ≤ k ∧ k < 138
        · rw [if_pos z, if_pos (by omega)]
        · rw [if_neg z]
          by_cases z2 : k = 106 + i
          · rw [e_eq z2, if_pos (by omega)]
          · rw [e_ne z2, if_neg (by omega)]
theorem init8 {N : Nat} (hN : 5000 ≤ N) : ∃ u : V8, sX8_init N = some u ∧ SH u ∧ ∀ g : Nat → Int32, g 0 = nI 0 → g 1 = nI 10 → g 2 = nI 30 → g 3 = nI 10 → g 4 = nI 5 → g 5 = nI 0 → g 6 = nI 0 → g 7 = nI 0 → g 8 = nI 0 → g 9 = nI 0 → (∀ c, c < 32 → g (106 + c) = nI 100) → (∀ k, 138 ≤ k → k < 554 → g k = if (k - 138) % 13 = 2 then m1 else nI 0) → ST u g 0 := by
  obtain ⟨t8, a1, a2, a3⟩ := tb_fill (t := (nI 32, nI 1, 32 * 1, fun _ => 0)) (TB.mk 32 1 _) (N := N) (nI 100) (by decide) (by omega)
  obtain ⟨t9, b1, b2, b3⟩ := tb_fill (t := (nI 32, nI 1, 32 * 1, fun _ => 0)) (TB.mk 32 1 _) (N := N) m1 (by decide) (by omega)
  obtain ⟨f, c1, c2⟩ := c_clear (v := ((nI 32, nI 4, 32 * 4, fun _ => 0), (nI 32, nI 8, 32 * 8, fun _ => 0), t8)) (TB.mk 32 4 _) hN
  obtain ⟨od, d1, d2⟩ := i_42 N 0 (fun _ => 0) (by omega) (by omega)
  have s7 : sX7_init = some ((nI 10, nI 6, 10 * 6, fun _ => 0), nI 0) := rfl
  have s5 : sX5_init = some ((nI 12, nI 3, 12 * 3, fun _ => 0), nI 0, nI 0, nI 0) := rfl
  have s1 : sX1_init N = some ((nI 32, nI 4, 32 * 4, f), (nI 32, nI 8, 32 * 8, fun _ => 0), t8) := by
    have e : sX1_init N = (sX9_fill N (nI 32, nI 1, 32 * 1, fun _ => 0) (nI 100)).bind (fun o10 => ((sX1_clear N ((nI 32, nI 4, 32 * 4, fun _ => 0), (nI 32, nI 8, 32 * 8, fun _ => 0), o10)).bind (fun o11 => (some (o11.1, o11.2.1, o11.2.2))))) := rfl
    rw [e, a1]
    show ((sX1_clear N ((nI 32, nI 4, 32 * 4, fun _ => 0), (nI 32, nI 8, 32 * 8, fun _ => 0), t8)).bind _) = _
    rw [c1]
    rfl
  have s2 : sX2_init N = some ((nI 50, nI 5, 50 * 5, fun _ => 0), (50, od), t9, nI 0) := by
    have e : sX2_init N = (qX2_init_42 N (nI 0) (fun _ => 0)).bind (fun o14 => ((sX9_fill N (nI 32, nI 1, 32 * 1, fun _ => 0) m1).bind (fun o18 => (some ((nI 50, nI 5, 50 * 5, fun _ => 0), (50, o14.2), o18, nI 0))))) := rfl
    rw [e, d1]
    show ((sX9_fill N (nI 32, nI 1, 32 * 1, fun _ => 0) m1).bind _) = _
    rw [b1]
    rfl
  refine ⟨(((nI 10, nI 6, 10 * 6, fun _ => 0), nI 0), ((nI 12, nI 3, 12 * 3, fun _ => 0), nI 0, nI 0, nI 0), ((nI 32, nI 4, 32 * 4, f), (nI 32, nI 8, 32 * 8, fun _ => 0), t8), ((nI 50, nI 5, 50 * 5, fun _ => 0), (50, od), t9, nI 0), nI 0, nI 10, nI 30, nI 10, nI 5), ?_, ?_, ?_⟩
  · simp only [sX8_init, s7, s5, s1, s2, Option.bind_some]
    rfl
  · exact ⟨TB.mk 10 6 _, TB.mk 12 3 _, TB.mk 32 4 _, TB.mk 32 8 _, a2, TB.mk 50 5 _, rfl, b2⟩
  · intro g g0 g1 g2 g3 g4 g5 g6 g7 g8 g9 gm gc
    refine ⟨⟨TB.mk 10 6 _, 0, by omega, rfl, g5, fun i j hi => by omega, fun i hi => by omega⟩, ⟨TB.mk 12 3 _, 0, 0, 0, by omega, rfl, g6, rfl, g7, rfl, g8, by omega, by omega, fun q => by omega, fun q => by omega, fun i j hi => by omega, fun i hi => by omega⟩, 0, by omega, g0, ?_, ?_, 10, 30, 10, 5, by omega, by omega, by omega, by omega, by omega, rfl, g1, g2, g3, g4⟩
    · refine det_clear (TB.mk 32 8 _) a2 (fun c hc => ?_) c2 gc
      rw [a3, if_pos (by omega), gm c hc]
    · refine ⟨TB.mk 50 5 _, rfl, b2, 0, fun i => i, by omega, rfl, g9, fun i hi => ⟨hi, ?_⟩, fun i j hi hj => (show i ≠ j by omega), fun e j he => by omega, fun e he => by omega, fun c hc => Or.inl ⟨?_, fun e he => by omega⟩⟩
      · show od i = nI i
        rw [d2, if_pos (by omega)]
      · show t9.2.2.2 (c * 1 + 0) = m1
        rw [b3, if_pos (by omega)]
theorem start_both {N : Nat} (hN : 5000 ≤ N) : ∃ (v : V10) (w : V11), sX10_init N = some v ∧ sX11_init N = some w ∧ RR 0 v w := by
  obtain ⟨u, u1, u2, u3⟩ := init8 hN
  obtain ⟨f', a1, a2⟩ := i_79 N 0 (upd (upd (upd (upd (fun _ => nI 0) 1 (nI 10)) 2 (nI 30)) 3 (nI 10)) 4 (nI 5)) (by omega) (by omega)
  obtain ⟨g, c1, c2, c3, c4⟩ := m_clears (w := ((804, f'), (3216, fun _ => nI 0), nI 0, nI 0, (100, fun _ => nI 0), nI 0, nI 0, (36, fun _ => nI 0), nI 0, nI 0, nI 0, nI 0, (50, fun _ => nI 0), nI 0)) rfl hN
  have c3 : ∀ k, ¬ (k = 9 ∨ 138 ≤ k ∧ k < 554) → g k = f' k := c3
  have s3 : sX3_init N = some (u, u, u, u, nI 0, nI 0) := by
    simp only [sX3_init, u1, Option.bind_some]
    rfl
  refine ⟨((((100, fun _ => nI 0), nI 0), ((nI 12, nI 3, 12 * 3, fun _ => nI 0), nI 0, nI 0, nI 0), nI 0, nI 0), ((108, fun _ => nI 0), nI 0), u, (u, u, u, u, nI 0, nI 0), ((50, fun _ => nI 0), (50, fun _ => nI 0), (50, fun _ => nI 0), nI 0), (32, fun _ => nI 0)), ((804, g), (3216, fun _ => nI 0), nI 0, nI 0, (100, fun _ => nI 0), nI 0, nI 0, (36, fun _ => nI 0), nI 0, nI 0, nI 0, nI 0, (50, fun _ => nI 0), nI 0), ?_, ?_, ?_⟩
  · have e : sX10_init N = (sX8_init N).bind (fun o11 => ((sX3_init N).bind (fun o14 => (some ((((100, fun _ => nI 0), nI 0), ((nI 12, nI 3, 12 * 3, fun _ => nI 0), nI 0, nI 0, nI 0), nI 0, nI 0), ((108, fun _ => nI 0), nI 0), o11, o14, ((50, fun _ => nI 0), (50, fun _ => nI 0), (50, fun _ => nI 0), nI 0), (32, fun _ => nI 0)))))) := rfl
    rw [e, u1]
    show ((sX3_init N).bind _) = _
    rw [s3]
    rfl
  · have e30 : (30 : Int32) = nI 30 := rfl
    simp only at c1
    simp (disch := omega) only [sX11_init, e30, a1, c1, ↓reduceIte, e_lt, e_bd, e_grd, e_clamp, e_l0, e_l1, e_l2, e_l3, e_l4, e_l5, e_l6, e_l7, e_l8, e_l9, e_l10, e_l12, e_l13, e_l20, e_l31, e_l32, e_l45, e_l48, e_l50, e_l57, e_l58, e_l59, e_l64, e_l70, e_l100, e_l106, e_l127, e_l138, e_l554, e_l799, e_l804, e_l1000, e_l2000, e_l2412, e_l100000, e_m1, nI_add, ni_mul, ni_sub, nI_clamp, e_ltT, e_ltF, e_leT, e_leF, e_eqT, e_eqF, e_mE, e_Em, e_mlt, e_mle, e_ltm, e_lem, e_gz, e_gt, e_bs, ite_self, e_el, e_er, tq_get, tq_set, tq_inc, tb_get_neg, tb_set_neg, and_true, true_and, and_false, false_and, not_false_eq_true, not_true_eq_false] <;> rfl
  · have G : ∀ k, ¬ (k = 9 ∨ 106 ≤ k ∧ k < 554) → g k = upd (upd (upd (upd (fun _ => nI 0) 1 (nI 10)) 2 (nI 30)) 3 (nI 10)) 4 (nI 5) k := by
      intro k hk
      rw [c3 k (by omega), a2, if_neg (by omega)]
    have Z : ∀ k, ¬ (k = 1 ∨ k = 2 ∨ k = 3 ∨ k = 4 ∨ k = 9 ∨ 106 ≤ k ∧ k < 554) → g k = nI 0 := by
      intro k hk
      rw [G k (by omega), e_ne (by omega), e_ne (by omega), e_ne (by omega), e_ne (by omega)]
    have hs := u3 g (Z 0 (by omega)) (by rw [G 1 (by omega), e_ne (by omega), e_ne (by omega), e_ne (by omega), e_eq rfl]) (by rw [G 2 (by omega), e_ne (by omega), e_ne (by omega), e_eq rfl]) (by rw [G 3 (by omega), e_ne (by omega), e_eq rfl]) (by rw [G 4 (by omega), e_eq rfl]) (Z 5 (by omega)) (Z 6 (by omega)) (Z 7 (by omega)) (Z 8 (by omega)) c2 (fun c hc => by rw [c3 _ (by omega), a2, if_pos (by omega)]) c4
    refine ⟨⟨rfl, rfl, rfl, rfl, rfl, TB.mk 12 3 _, rfl, rfl, rfl, rfl, rfl⟩, ⟨rfl, 0, by omega, rfl, rfl, fun k hk => by omega⟩, hs, 0, rfl, 0, by omega, by omega, rfl, rfl, fun k hk => ?_, fun j hj => by omega⟩
    rcases (show k = 0 ∨ k = 1 ∨ k = 2 ∨ k = 3 by omega) with rfl | rfl | rfl | rfl <;> exact u2
