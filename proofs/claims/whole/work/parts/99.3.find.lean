/-! chains found, on both sides -/
section FD
variable {N n T b : Nat} {w : V11} {gp tl : Int32} {f o p : Nat → Int32} {od : Nat → Nat} {S F0 : Nat → Int32} {s1 s3 : Nat} {P Fi : Nat → Int32} {x1 : Int32}
theorem fp_loop (hN : 5000 ≤ N) (hz : w.1.1 = 804) (h5 : w.2.2.2.2.2.2.2.2.2.2.2.2.1.1 = 50) (g3 : w.1.2 3 = gp) (g4 : w.1.2 4 = tl) (h : RE f o p n od w.1.2 T) (hT : T < 2 ^ 30) (hb : b < n) (hS : ∀ a, a < b → (S a = m1 ↔ ∀ k, k < b → F0 k ≠ nI a)) :
    ∀ (d a : Nat) (F : Nat → Int32) (be : Int32), a + d = b → (∀ k, k ≠ b → F k = F0 k) → ((F b = m1 ∧ be = m1) ∨ ∃ x, x < b ∧ F b = nI x ∧ be = EV w.1.2 x 2) →
    ∃ (F' : Nat → Int32) (be' : Int32), (F' b = m1 ∨ ∃ x, x < b ∧ F' b = nI x) ∧ (∀ k, k ≠ b → F' k = F0 k) ∧ (∀ M, d < M → qX4_findPredecessor_9 ((s1, P), (50, S), (s3, Fi), x1) (lgv f o p n) (nI b) gp tl M (F b) be (nI a) = some (F' b, be', nI b)) ∧ ∀ M, d < M → qX11_laysChains_22 N w (nI b) M (nI a) F = some (nI b, F') := by
  obtain ⟨hn, -, -, -, -, h6, -⟩ := id h
  intro d
  induction d with
  | zero =>
    intro a F be ha hF hB
    have : a = b := by omega
    subst this
    refine ⟨F, be, ?_, hF, fun M hM => ?_, fun M hM => ?_⟩
    · rcases hB with ⟨q, -⟩ | ⟨x, q1, q2, -⟩
      · exact Or.inl q
      · exact Or.inr ⟨x, q1, q2⟩
    · obtain ⟨M, rfl⟩ : ∃ N', M = N' + 1 := ⟨M - 1, by omega⟩
      rw [qX4_findPredecessor_9]
      simp (disch := omega) only [↓reduceIte, e_lt, e_bd, e_grd, e_clamp, e_l0, e_l1, e_l2, e_l3, e_l4, e_l5, e_l6, e_l7, e_l8, e_l9, e_l10, e_l12, e_l13, e_l20, e_l31, e_l32, e_l45, e_l48, e_l50, e_l57, e_l58, e_l59, e_l64, e_l70, e_l100, e_l106, e_l127, e_l138, e_l554, e_l799, e_l804, e_l1000, e_l2000, e_l2412, e_l100000, e_m1, nI_add, ni_mul, ni_sub, nI_clamp, e_ltT, e_ltF, e_leT, e_leF, e_eqT, e_eqF, e_mE, e_Em, e_mlt, e_mle, e_ltm, e_lem, e_gz, e_gt, e_bs, ite_self, e_el, e_er, tq_get, tq_set, tq_inc, tb_get_neg, tb_set_neg, and_true, true_and, and_false, false_and, not_false_eq_true, not_true_eq_false] <;> rfl
    · obtain ⟨M, rfl⟩ : ∃ N', M = N' + 1 := ⟨M - 1, by omega⟩
      rw [qX11_laysChains_22]
      simp (disch := omega) only [↓reduceIte, e_lt, e_bd, e_grd, e_clamp, e_l0, e_l1, e_l2, e_l3, e_l4, e_l5, e_l6, e_l7, e_l8, e_l9, e_l10, e_l12, e_l13, e_l20, e_l31, e_l32, e_l45, e_l48, e_l50, e_l57, e_l58, e_l59, e_l64, e_l70, e_l100, e_l106, e_l127, e_l138, e_l554, e_l799, e_l804, e_l1000, e_l2000, e_l2412, e_l100000, e_m1, nI_add, ni_mul, ni_sub, nI_clamp, e_ltT, e_ltF, e_leT, e_leF, e_eqT, e_eqF, e_mE, e_Em, e_mlt, e_mle, e_ltm, e_lem, e_gz, e_gt, e_bs, ite_self, e_el, e_er, tq_get, tq_set, tq_inc, tb_get_neg, tb_set_neg, and_true, true_and, and_false, false_and, not_false_eq_true, not_true_eq_false] <;> rfl
  | succ d ih =>
    intro a F be ha hF hB
    have hrd := c_read h (e := a) (j := 2) (by omega) (by omega)
    obtain ⟨-, -, ⟨ta, hta, eta⟩, -, -⟩ := h6 a (by omega)
    obtain ⟨cf1, cf2⟩ := c_fits (gp := gp) (tl := tl) h (show a < n by omega) hb
    have hfr : (∀ k, k < b → F k ≠ nI a) ↔ S a = m1 := by
      rw [hS a (by omega)]
      refine ⟨fun q k hk => ?_, fun q k hk => ?_⟩
      · rw [← hF k (by omega)]; exact q k hk
      · rw [hF k (by omega)]; exact q k hk
    by_cases hC : FT w.1.2 gp tl a b ∧ S a = m1 ∧ ¬ EV w.1.2 a 2 < be
    · obtain ⟨c1, c2, c3⟩ := hC
      have cf1 := cf1 c1
      obtain ⟨F', be', r1, r2, r3, r4⟩ := ih (a + 1) (upd F b (nI a)) (EV w.1.2 a 2) (by omega) (fun k hk => by rw [e_ne hk]; exact hF k hk) (Or.inr ⟨a, by omega, e_eq rfl, rfl⟩)
      refine ⟨F', be', r1, r2, fun M hM => ?_, fun M hM => ?_⟩
      · obtain ⟨M, rfl⟩ : ∃ N', M = N' + 1 := ⟨M - 1, by omega⟩
        have r3 := r3 M (by omega)
        rw [e_eq rfl] at r3
        rw [qX4_findPredecessor_9]
        simp (disch := omega) only [hrd, c2, c3, cf1, r3, ↓reduceIte, e_lt, e_bd, e_grd, e_clamp, e_l0, e_l1, e_l2, e_l3, e_l4, e_l5, e_l6, e_l7, e_l8, e_l9, e_l10, e_l12, e_l13, e_l20, e_l31, e_l32, e_l45, e_l48, e_l50, e_l57, e_l58, e_l59, e_l64, e_l70, e_l100, e_l106, e_l127, e_l138, e_l554, e_l799, e_l804, e_l1000, e_l2000, e_l2412, e_l100000, e_m1, nI_add, ni_mul, ni_sub, nI_clamp, e_ltT, e_ltF, e_leT, e_leF, e_eqT, e_eqF, e_mE, e_Em, e_mlt, e_mle, e_ltm, e_lem, e_gz, e_gt, e_bs, ite_self, e_el, e_er, tq_get, tq_set, tq_inc, tb_get_neg, tb_set_neg, and_true, true_and, and_false, false_and, not_false_eq_true, not_true_eq_false] <;> rfl
      · obtain ⟨M, rfl⟩ : ∃ N', M = N' + 1 := ⟨M - 1, by omega⟩
        rw [← r4 M (by omega)]
        refine m_candJ hz h5 g3 g4 (by omega) (by omega) hN M (nI a) (fun _ => ?_) (fun z => absurd ⟨c1, hfr.mpr c2⟩ z)
        rcases hB with ⟨q, -⟩ | ⟨x, q1, q2, q3⟩
        · rw [if_pos q]
        · have c3 : ¬ w.1.2 (554 + 5 * a + 2) < w.1.2 (554 + 5 * x + 2) := by rw [q3] at c3; exact c3
          simp (disch := omega) only [q2, sX11_eventAt, c3, ↓reduceIte, e_lt, e_bd, e_grd, e_clamp, e_l0, e_l1, e_l2, e_l3, e_l4, e_l5, e_l6, e_l7, e_l8, e_l9, e_l10, e_l12, e_l13, e_l20, e_l31, e_l32, e_l45, e_l48, e_l50, e_l57, e_l58, e_l59, e_l64, e_l70, e_l100, e_l106, e_l127, e_l138, e_l554, e_l799, e_l804, e_l1000, e_l2000, e_l2412, e_l100000, e_m1, nI_add, ni_mul, ni_sub, nI_clamp, e_ltT, e_ltF, e_leT, e_leF, e_eqT, e_eqF, e_mE, e_Em, e_mlt, e_mle, e_ltm, e_lem, e_gz, e_gt, e_bs, ite_self, e_el, e_er, tq_get, tq_set, tq_inc, tb_get_neg, tb_set_neg, and_true, true_and, and_false, false_and, not_false_eq_true, not_true_eq_false] <;> rfl
    · obtain ⟨F', be', r1, r2, r3, r4⟩ := ih (a + 1) F be (by omega) hF hB
      refine ⟨F', be', r1, r2, fun M hM => ?_, fun M hM => ?_⟩
      · obtain ⟨M, rfl⟩ : ∃ N', M = N' + 1 := ⟨M - 1, by omega⟩
        have r3 := r3 M (by omega)
        rw [qX4_findPredecessor_9]
        by_cases c2 : S a = m1
        · by_cases c3 : EV w.1.2 a 2 < be
          · simp (disch := omega) only [hrd, c2, c3, r3, ↓reduceIte, e_lt, e_bd, e_grd, e_clamp, e_l0, e_l1, e_l2, e_l3, e_l4, e_l5, e_l6, e_l7, e_l8, e_l9, e_l10, e_l12, e_l13, e_l20, e_l31, e_l32, e_l45, e_l48, e_l50, e_l57, e_l58, e_l59, e_l64, e_l70, e_l100, e_l106, e_l127, e_l138, e_l554, e_l799, e_l804, e_l1000, e_l2000, e_l2412, e_l100000, e_m1, nI_add, ni_mul, ni_sub, nI_clamp, e_ltT, e_ltF, e_leT, e_leF, e_eqT, e_eqF, e_mE, e_Em, e_mlt, e_mle, e_ltm, e_lem, e_gz, e_gt, e_bs, ite_self, e_el, e_er, tq_get, tq_set, tq_inc, tb_get_neg, tb_set_neg, and_true, true_and, and_false, false_and, not_false_eq_true, not_true_eq_false] <;> rfl
          · have cf2 := cf2 (fun z => hC ⟨z, c2, c3⟩)
            simp (disch := omega) only [hrd, c2, c3, cf2, r3, ↓reduceIte, e_lt, e_bd, e_grd, e_clamp, e_l0, e_l1, e_l2, e_l3, e_l4, e_l5, e_l6, e_l7, e_l8, e_l9, e_l10, e_l12, e_l13, e_l20, e_l31, e_l32, e_l45, e_l48, e_l50, e_l57, e_l58, e_l59, e_l64, e_l70, e_l100, e_l106, e_l127, e_l138, e_l554, e_l799, e_l804, e_l1000, e_l2000, e_l2412, e_l100000, e_m1, nI_add, ni_mul, ni_sub, nI_clamp, e_ltT, e_ltF, e_leT, e_leF, e_eqT, e_eqF, e_mE, e_Em, e_mlt, e_mle, e_ltm, e_lem, e_gz, e_gt, e_bs, ite_self, e_el, e_er, tq_get, tq_set, tq_inc, tb_get_neg, tb_set_neg, and_true, true_and, and_false, false_and, not_false_eq_true, not_true_eq_false] <;> rfl
        · simp (disch := omega) only [hrd, c2, r3, ↓reduceIte, e_lt, e_bd, e_grd, e_clamp, e_l0, e_l1, e_l2, e_l3, e_l4, e_l5, e_l6, e_l7, e_l8, e_l9, e_l10, e_l12, e_l13, e_l20, e_l31, e_l32, e_l45, e_l48, e_l50, e_l57, e_l58, e_l59, e_l64, e_l70, e_l100, e_l106, e_l127, e_l138, e_l554, e_l799, e_l804, e_l1000, e_l2000, e_l2412, e_l100000, e_m1, nI_add, ni_mul, ni_sub, nI_clamp, e_ltT, e_ltF, e_leT, e_leF, e_eqT, e_eqF, e_mE, e_Em, e_mlt, e_mle, e_ltm, e_lem, e_gz, e_gt, e_bs, ite_self, e_el, e_er, tq_get, tq_set, tq_inc, tb_get_neg, tb_set_neg, and_true, true_and, and_false, false_and, not_false_eq_true, not_true_eq_false] <;> rfl
      · obtain ⟨M, rfl⟩ : ∃ N', M = N' + 1 := ⟨M - 1, by omega⟩
        rw [← r4 M (by omega)]
        have hs : upd F b (F b) = F := fa_upd_same rfl
        rw [m_candJ hz h5 g3 g4 (by omega) (by omega) hN M (F b) (fun z => ?_) (fun _ => rfl), hs]
        have c2 := hfr.mp z.2
        have c3 : EV w.1.2 a 2 < be := Classical.byContradiction fun q => hC ⟨z.1, c2, q⟩
        rcases hB with ⟨-, q⟩ | ⟨x, q1, q2, q3⟩
        · rw [q, eta, e_ltm (by omega)] at c3
          exact c3.elim
        · have c3 : w.1.2 (554 + 5 * a + 2) < w.1.2 (554 + 5 * x + 2) := by rw [q3] at c3; exact c3
          simp (disch := omega) only [q2, sX11_eventAt, c3, ↓reduceIte, e_lt, e_bd, e_grd, e_clamp, e_l0, e_l1, e_l2, e_l3, e_l4, e_l5, e_l6, e_l7, e_l8, e_l9, e_l10, e_l12, e_l13, e_l20, e_l31, e_l32, e_l45, e_l48, e_l50, e_l57, e_l58, e_l59, e_l64, e_l70, e_l100, e_l106, e_l127, e_l138, e_l554, e_l799, e_l804, e_l1000, e_l2000, e_l2412, e_l100000, e_m1, nI_add, ni_mul, ni_sub, nI_clamp, e_ltT, e_ltF, e_leT, e_leF, e_eqT, e_eqF, e_mE, e_Em, e_mlt, e_mle, e_ltm, e_lem, e_gz, e_gt, e_bs, ite_self, e_el, e_er, tq_get, tq_set, tq_inc, tb_get_neg, tb_set_neg, and_true, true_and, and_false, false_and, not_false_eq_true, not_true_eq_false] <;> rfl
def CHN (n : Nat) (bf F1 : Nat → Int32) : Prop := ∀ e, e < n → ∃ x, x ≤ e ∧ F1 e = nI x ∧ ((bf e = m1 ∧ x = e) ∨ ∃ j, j < e ∧ bf e = nI j ∧ F1 j = F1 e)
theorem fd_loop (hN : 5000 ≤ N) (hz : w.1.1 = 804) (h5 : w.2.2.2.2.2.2.2.2.2.2.2.2.1.1 = 50) (g3 : w.1.2 3 = gp) (g4 : w.1.2 4 = tl) (h : RE f o p n od w.1.2 T) (hT : T < 2 ^ 30) {v4 : V4} (v1 : v4.1.1 = 50) (v2 : v4.2.1.1 = 50) (v3 : v4.2.2.1.1 = 50) :
    ∀ (d b : Nat) (z1 z2 z3 F : Nat → Int32), b + d = n → (∀ a, a < 50 → (z2 a = m1 ↔ ∀ k, k < b → F k ≠ nI a)) → (∀ k, k < b → z1 k = F k) → CHN b F z3 →
    ∃ (y1 y2 y3 F' : Nat → Int32), (∀ M, d < M → qX4_find_24 N v4 (lgv f o p n) gp tl (nI n) M (nI b) z1 z2 z3 = some (nI n, y1, y2, y3)) ∧ (∀ M, d < M → qX11_laysChains_2 N w M (nI b) F = some (nI n, F')) ∧ (∀ k, k < n → y1 k = F' k) ∧ CHN n F' y3 := by
  obtain ⟨hn, g9, -⟩ := id h
  intro d
  induction d with
  | zero =>
    intro b z1 z2 z3 F hb hS hP hC
    have : b = n := by omega
    subst this
    refine ⟨z1, z2, z3, F, fun M hM => ?_, fun M hM => ?_, hP, hC⟩
    · obtain ⟨M, rfl⟩ : ∃ N', M = N' + 1 := ⟨M - 1, by omega⟩
      rw [qX4_find_24]
      simp (disch := omega) only [↓reduceIte, e_lt, e_bd, e_grd, e_clamp, e_l0, e_l1, e_l2, e_l3, e_l4, e_l5, e_l6, e_l7, e_l8, e_l9, e_l10, e_l12, e_l13, e_l20, e_l31, e_l32, e_l45, e_l48, e_l50, e_l57, e_l58, e_l59, e_l64, e_l70, e_l100, e_l106, e_l127, e_l138, e_l554, e_l799, e_l804, e_l1000, e_l2000, e_l2412, e_l100000, e_m1, nI_add, ni_mul, ni_sub, nI_clamp, e_ltT, e_ltF, e_leT, e_leF, e_eqT, e_eqF, e_mE, e_Em, e_mlt, e_mle, e_ltm, e_lem, e_gz, e_gt, e_bs, ite_self, e_el, e_er, tq_get, tq_set, tq_inc, tb_get_neg, tb_set_neg, and_true, true_and, and_false, false_and, not_false_eq_true, not_true_eq_false] <;> rfl
    · obtain ⟨M, rfl⟩ : ∃ N', M = N' + 1 := ⟨M - 1, by omega⟩
      rw [qX11_laysChains_2]
      simp (disch := omega) only [hz, g9, ↓reduceIte, e_lt, e_bd, e_grd, e_clamp, e_l0, e_l1, e_l2, e_l3, e_l4, e_l5, e_l6, e_l7, e_l8, e_l9, e_l10, e_l12, e_l13, e_l20, e_l31, e_l32, e_l45, e_l48, e_l50, e_l57, e_l58, e_l59, e_l64, e_l70, e_l100, e_l106, e_l127, e_l138, e_l554, e_l799, e_l804, e_l1000, e_l2000, e_l2412, e_l100000, e_m1, nI_add, ni_mul, ni_sub, nI_clamp, e_ltT, e_ltF, e_leT, e_leF, e_eqT, e_eqF, e_mE, e_Em, e_mlt, e_mle, e_ltm, e_lem, e_gz, e_gt, e_bs, ite_self, e_el, e_er, tq_get, tq_set, tq_inc, tb_get_neg, tb_set_neg, and_true, true_and, and_false, false_and, not_false_eq_true, not_true_eq_false] <;> rfl
  | succ d ih =>
    intro b z1 z2 z3 F hb hS hP hC
    have hC0 : ∀ k, k < b → F k = m1 ∨ ∃ j, j < k ∧ F k = nI j := by
      intro k hk
      obtain ⟨x, -, -, ⟨q, -⟩ | ⟨j, q1, q2, -⟩⟩ := hC k hk
      · exact Or.inl q
      · exact Or.inr ⟨j, q1, q2⟩
    obtain ⟨F1, be', r1, r2, r3, r4⟩ := fp_loop (b := b) (S := z2) (F0 := F) (s1 := 50) (s3 := 50) (P := z1) (Fi := z3) (x1 := nI n) hN hz h5 g3 g4 h hT (by omega) (fun a ha => hS a (by omega)) b 0 (upd F b m1) m1 (by omega) (fun k hk => e_ne hk) (Or.inl ⟨e_eq rfl, rfl⟩)
    have r3 := r3 N (by omega)
    have r4 := r4 N (by omega)
    rw [e_eq rfl] at r3
    have hF1 : ∀ k, k < b → F1 k = F k := fun k hk => r2 k (by omega)
    rcases r1 with q | ⟨x, hx, q⟩
    · rw [q] at r3
      obtain ⟨y1, y2, y3, F', a1, a2, a3, a4⟩ := ih (b + 1) (upd z1 b m1) z2 (upd z3 b (nI b)) F1 (by omega) (fun a ha => by
        rw [hS a ha]
        refine ⟨fun z k hk => ?_, fun z k hk => ?_⟩
        · by_cases e : k = b
          · rw [e, q]
            exact fun z => (of_eq_false (e_Em (show a < 2 ^ 31 by omega))) z
          · rw [hF1 k (by omega)]; exact z k (by omega)
        · rw [← hF1 k hk]; exact z k (by omega)) (fun k hk => by
        by_cases e : k = b
        · rw [e, e_eq rfl, q]
        · rw [e_ne e, hF1 k (by omega)]; exact hP k (by omega)) (fun e he => by
        by_cases q2 : e = b
        · subst q2
          exact ⟨e, Nat.le_refl _, e_eq rfl, Or.inl ⟨q, rfl⟩⟩
        · obtain ⟨x, c1, c2, c3⟩ := hC e (by omega)
          refine ⟨x, c1, by rw [e_ne q2]; exact c2, ?_⟩
          rcases c3 with ⟨c3, c4⟩ | ⟨j, c3, c4, c5⟩
          · exact Or.inl ⟨by rw [hF1 e (by omega)]; exact c3, c4⟩
          · exact Or.inr ⟨j, c3, by rw [hF1 e (by omega)]; exact c4, by rw [e_ne q2, e_ne (by omega)]; exact c5⟩)
      refine ⟨y1, y2, y3, F', fun M hM => ?_, fun M hM => ?_, a3, a4⟩
      · obtain ⟨M, rfl⟩ : ∃ N', M = N' + 1 := ⟨M - 1, by omega⟩
        have a1 := a1 M (by omega)
        rw [qX4_find_24]
        simp (disch := omega) only [v1, v2, v3, sX4_findPredecessor, r3, c_within, a1, ↓reduceIte, e_lt, e_bd, e_grd, e_clamp, e_l0, e_l1, e_l2, e_l3, e_l4, e_l5, e_l6, e_l7, e_l8, e_l9, e_l10, e_l12, e_l13, e_l20, e_l31, e_l32, e_l45, e_l48, e_l50, e_l57, e_l58, e_l59, e_l64, e_l70, e_l100, e_l106, e_l127, e_l138, e_l554, e_l799, e_l804, e_l1000, e_l2000, e_l2412, e_l100000, e_m1, nI_add, ni_mul, ni_sub, nI_clamp, e_ltT, e_ltF, e_leT, e_leF, e_eqT, e_eqF, e_mE, e_Em, e_mlt, e_mle, e_ltm, e_lem, e_gz, e_gt, e_bs, ite_self, e_el, e_er, tq_get, tq_set, tq_inc, tb_get_neg, tb_set_neg, and_true, true_and, and_false, false_and, not_false_eq_true, not_true_eq_false] <;> rfl
      · obtain ⟨M, rfl⟩ : ∃ N', M = N' + 1 := ⟨M - 1, by omega⟩
        have a2 := a2 M (by omega)
        rw [qX11_laysChains_2]
        simp (disch := omega) only [hz, h5, g9, r4, a2, ↓reduceIte, e_lt, e_bd, e_grd, e_clamp, e_l0, e_l1, e_l2, e_l3, e_l4, e_l5, e_l6, e_l7, e_l8, e_l9, e_l10, e_l12, e_l13, e_l20, e_l31, e_l32, e_l45, e_l48, e_l50, e_l57, e_l58, e_l59, e_l64, e_l70, e_l100, e_l106, e_l127, e_l138, e_l554, e_l799, e_l804, e_l1000, e_l2000, e_l2412, e_l100000, e_m1, nI_add, ni_mul, ni_sub, nI_clamp, e_ltT, e_ltF, e_leT, e_leF, e_eqT, e_eqF, e_mE, e_Em, e_mlt, e_mle, e_ltm, e_lem, e_gz, e_gt, e_bs, ite_self, e_el, e_er, tq_get, tq_set, tq_inc, tb_get_neg, tb_set_neg, and_true, true_and, and_false, false_and, not_false_eq_true, not_true_eq_false] <;> rfl
    · rw [q] at r3
      obtain ⟨y1, y2, y3, F', a1, a2, a3, a4⟩ := ih (b + 1) (upd z1 b (nI x)) (upd z2 x (nI b)) (upd (upd z3 b (nI b)) b (z3 x)) F1 (by omega) (fun a ha => by
        by_cases ea : a = x
        · subst ea
          rw [e_eq rfl]
          refine ⟨fun z => ?_, fun z => absurd q (z b (by omega))⟩
          rw [e_mE (by omega)] at z
          exact z.elim
        · rw [e_ne ea, hS a ha]
          refine ⟨fun z k hk => ?_, fun z k hk => ?_⟩
          · by_cases e : k = b
            · rw [e, q]
              exact fun z => ea ((nI_eq (by omega) (by omega)).mp z).symm
            · rw [hF1 k (by omega)]; exact z k (by omega)
          · rw [← hF1 k hk]; exact z k (by omega)) (fun k hk => by
        by_cases e : k = b
        · rw [e, e_eq rfl, q]
        · rw [e_ne e, hF1 k (by omega)]; exact hP k (by omega)) (fun e he => by
        by_cases q2 : e = b
        · subst q2
          obtain ⟨y, c1, c2, -⟩ := hC x hx
          exact ⟨y, by omega, by rw [e_eq rfl]; exact c2, Or.inr ⟨x, hx, q, by rw [e_eq rfl, e_ne (by omega), e_ne (by omega)]⟩⟩
        · obtain ⟨x, c1, c2, c3⟩ := hC e (by omega)
          refine ⟨x, c1, by rw [e_ne q2, e_ne q2]; exact c2, ?_⟩
          rcases c3 with ⟨c3, c4⟩ | ⟨j, c3, c4, c5⟩
          · exact Or.inl ⟨by rw [hF1 e (by omega)]; exact c3, c4⟩
          · exact Or.inr ⟨j, c3, by rw [hF1 e (by omega)]; exact c4, by rw [e_ne q2, e_ne q2, e_ne (by omega), e_ne (by omega)]; exact c5⟩)
      refine ⟨y1, y2, y3, F', fun M hM => ?_, fun M hM => ?_, a3, a4⟩
      · obtain ⟨M, rfl⟩ : ∃ N', M = N' + 1 := ⟨M - 1, by omega⟩
        have a1 := a1 M (by omega)
        rw [qX4_find_24]
        simp (disch := omega) only [v1, v2, v3, sX4_findPredecessor, r3, c_within, e_ne, a1, ↓reduceIte, e_lt, e_bd, e_grd, e_clamp, e_l0, e_l1, e_l2, e_l3, e_l4, e_l5, e_l6, e_l7, e_l8, e_l9, e_l10, e_l12, e_l13, e_l20, e_l31, e_l32, e_l45, e_l48, e_l50, e_l57, e_l58, e_l59, e_l64, e_l70, e_l100, e_l106, e_l127, e_l138, e_l554, e_l799, e_l804, e_l1000, e_l2000, e_l2412, e_l100000, e_m1, nI_add, ni_mul, ni_sub, nI_clamp, e_ltT, e_ltF, e_leT, e_leF, e_eqT, e_eqF, e_mE, e_Em, e_mlt, e_mle, e_ltm, e_lem, e_gz, e_gt, e_bs, ite_self, e_el, e_er, tq_get, tq_set, tq_inc, tb_get_neg, tb_set_neg, and_true, true_and, and_false, false_and, not_false_eq_true, not_true_eq_false] <;> rfl
      · obtain ⟨M, rfl⟩ : ∃ N', M = N' + 1 := ⟨M - 1, by omega⟩
        have a2 := a2 M (by omega)
        rw [qX11_laysChains_2]
        simp (disch := omega) only [hz, h5, g9, r4, a2, ↓reduceIte, e_lt, e_bd, e_grd, e_clamp, e_l0, e_l1, e_l2, e_l3, e_l4, e_l5, e_l6, e_l7, e_l8, e_l9, e_l10, e_l12, e_l13, e_l20, e_l31, e_l32, e_l45, e_l48, e_l50, e_l57, e_l58, e_l59, e_l64, e_l70, e_l100, e_l106, e_l127, e_l138, e_l554, e_l799, e_l804, e_l1000, e_l2000, e_l2412, e_l100000, e_m1, nI_add, ni_mul, ni_sub, nI_clamp, e_ltT, e_ltF, e_leT, e_leF, e_eqT, e_eqF, e_mE, e_Em, e_mlt, e_mle, e_ltm, e_lem, e_gz, e_gt, e_bs, ite_self, e_el, e_er, tq_get, tq_set, tq_inc, tb_get_neg, tb_set_neg, and_true, true_and, and_false, false_and, not_false_eq_true, not_true_eq_false] <;> rfl
end FD
/-- chains as they are found on both sides -/
theorem fd_both {N t : Nat} {v : V10} {w : V11} {gp tl : Int32} (hN : 5000 ≤ N) (hz : w.1.1 = 804) (h5 : w.2.2.2.2.2.2.2.2.2.2.2.2.1.1 = 50) (g3 : w.1.2 3 = gp) (g4 : w.1.2 4 = tl) (vg : v.2.2.1.2.2.2.2.2.2.2.1 = gp) (vt : v.2.2.1.2.2.2.2.2.2.2.2 = tl) (hE : Rev v.2.2.1.2.2.2.1 w.1.2 t) (ht : t < 2 ^ 30) (v1 : v.2.2.2.2.1.1.1 = 50) (v2 : v.2.2.2.2.1.2.1.1 = 50) (v3 : v.2.2.2.2.1.2.2.1.1 = 50) :
    ∃ (n : Nat) (y1 y2 y3 F' : Nat → Int32), n ≤ 50 ∧ v.2.2.1.2.2.2.1.2.2.2 = nI n ∧ w.1.2 9 = nI n ∧ sX10_findChains N v = some (v.1, v.2.1, v.2.2.1, v.2.2.2.1, ((50, y1), (50, y2), (50, y3), nI n), v.2.2.2.2.2) ∧ sX11_laysChains N w = some (w.1, w.2.1, w.2.2.1, w.2.2.2.1, w.2.2.2.2.1, w.2.2.2.2.2.1, w.2.2.2.2.2.2.1, w.2.2.2.2.2.2.2.1, w.2.2.2.2.2.2.2.2.1, w.2.2.2.2.2.2.2.2.2.1, w.2.2.2.2.2.2.2.2.2.2.1, w.2.2.2.2.2.2.2.2.2.2.2.1, (50, F'), w.2.2.2.2.2.2.2.2.2.2.2.2.2) ∧ (∀ k, k < n → y1 k = F' k) ∧ CHN n F' y3 ∧ ∀ e j, e < n → j < 5 → sX2_read v.2.2.1.2.2.2.1 (nI e) (nI j) = some (w.1.2 (554 + 5 * e + j)) := by
  obtain ⟨f, o, p, n, od, hv, hR⟩ := hE.ex
  obtain ⟨hn, g9, -⟩ := id hR
  obtain ⟨s0, q1, q2⟩ := s_fill (n := 50) (N := N) (f := v.2.2.2.2.1.2.1.2) (x := m1) (by decide) (by omega)
  obtain ⟨y1, y2, y3, F', a1, a2, a3, a4⟩ := fd_loop (N := N) (v4 := v.2.2.2.2.1) hN hz h5 g3 g4 hR ht v1 v2 v3 n 0 v.2.2.2.2.1.1.2 s0 v.2.2.2.2.1.2.2.1.2 w.2.2.2.2.2.2.2.2.2.2.2.2.1.2 (by omega) (fun a ha => by
    rw [q2, if_pos ha]
    exact ⟨fun _ k hk => by omega, fun _ => rfl⟩) (fun k hk => by omega) (fun k hk => by omega)
  have a1 := a1 N (by omega)
  have a2 := a2 N (by omega)
  refine ⟨n, y1, y2, y3, F', hn, by rw [hv]; rfl, g9, ?_, ?_, a3, a4, fun e j he hj => ?_⟩
  · have hct : (lgv f o p n).2.2.2 = nI n := rfl
    have hmn : (if nI 50 < nI n then nI 50 else nI n) = nI n := if_neg (nI_nlt (by omega) (by omega))
    have q1 : sJ7_fill_53178 N v.2.2.2.2.1.2.1 m1 = some s0 := by
      have : v.2.2.2.2.1.2.1 = (50, v.2.2.2.2.1.2.1.2) := by rw [← v2]
      rw [this]
      exact q1
    simp (disch := omega) only [sX10_findChains, sX4_find, hv, vg, vt, hct, q1, a1, v1, v2, v3, ↓reduceIte, e_lt, e_bd, e_grd, e_clamp, e_l0, e_l1, e_l2, e_l3, e_l4, e_l5, e_l6, e_l7, e_l8, e_l9, e_l10, e_l12, e_l13, e_l20, e_l31, e_l32, e_l45, e_l48, e_l50, e_l57, e_l58, e_l59, e_l64, e_l70, e_l100, e_l106, e_l127, e_l138, e_l554, e_l799, e_l804, e_l1000, e_l2000, e_l2412, e_l100000, e_m1, nI_add, ni_mul, ni_sub, nI_clamp, e_ltT, e_ltF, e_leT, e_leF, e_eqT, e_eqF, e_mE, e_Em, e_mlt, e_mle, e_ltm, e_lem, e_gz, e_gt, e_bs, ite_self, e_el, e_er, tq_get, tq_set, tq_inc, tb_get_neg, tb_set_neg, and_true, true_and, and_false, false_and, not_false_eq_true, not_true_eq_false] <;> rfl
  · simp (disch := omega) only [sX11_laysChains, a2, h5, ↓reduceIte, e_lt, e_bd, e_grd, e_clamp, e_l0, e_l1, e_l2, e_l3, e_l4, e_l5, e_l6, e_l7, e_l8, e_l9, e_l10, e_l12, e_l13, e_l20, e_l31, e_l32, e_l45, e_l48, e_l50, e_l57, e_l58, e_l59, e_l64, e_l70, e_l100, e_l106, e_l127, e_l138, e_l554, e_l799, e_l804, e_l1000, e_l2000, e_l2412, e_l100000, e_m1, nI_add, ni_mul, ni_sub, nI_clamp, e_ltT, e_ltF, e_leT, e_leF, e_eqT, e_eqF, e_mE, e_Em, e_mlt, e_mle, e_ltm, e_lem, e_gz, e_gt, e_bs, ite_self, e_el, e_er, tq_get, tq_set, tq_inc, tb_get_neg, tb_set_neg, and_true, true_and, and_false, false_and, not_false_eq_true, not_true_eq_false] <;> rfl
  · rw [hv]
    exact c_read hR he hj
