/-! chains: one candidate -/
theorem c_read {f o p : Nat → Int32} {n T : Nat} {od : Nat → Nat} {g : Nat → Int32} (h : RE f o p n od g T) {e j : Nat} (he : e < n) (hj : j < 5) : sX2_read (lgv f o p n) (nI e) (nI j) = some (EV g e j) := by
  obtain ⟨h1, -, h3, -, h5, -⟩ := h
  obtain ⟨d1, d2⟩ := h3 e (by omega)
  have k := h5 e j he hj
  simp (disch := omega) only [lgv, sX2_read, c_within, d2, k, ↓reduceIte, e_lt, e_bd, e_grd, e_clamp, e_l0, e_l1, e_l2, e_l3, e_l4, e_l5, e_l6, e_l7, e_l8, e_l9, e_l10, e_l12, e_l13, e_l20, e_l31, e_l32, e_l45, e_l48, e_l50, e_l57, e_l58, e_l59, e_l64, e_l70, e_l100, e_l106, e_l127, e_l138, e_l554, e_l799, e_l804, e_l1000, e_l2000, e_l2412, e_l100000, e_m1, nI_add, ni_mul, ni_sub, nI_clamp, e_ltT, e_ltF, e_leT, e_leF, e_eqT, e_eqF, e_mE, e_Em, e_mlt, e_mle, e_ltm, e_lem, e_gz, e_gt, e_bs, ite_self, e_el, e_er, tq_get, tq_set, tq_inc, tb_get_neg, tb_set_neg, and_true, true_and, and_false, false_and, not_false_eq_true, not_true_eq_false] <;> rfl
def apI (x y : Int32) : Int32 := if x ≤ y then y - x else x - y
def FT (g : Nat → Int32) (gp tl : Int32) (a b : Nat) : Prop := EV g a 4 = nI 0 ∧ ¬ EV g a 0 = EV g b 0 ∧ nI 1 ≤ EV g b 1 - EV g a 2 ∧ EV g b 1 - EV g a 2 ≤ gp ∧ ¬ tl < apI (EV g a 3) (EV g b 3)
theorem absd {x y : Nat} (hx : x ≤ 100) (hy : y ≤ 100) : (if nI 0 ≤ nI y - nI x then nI y - nI x else nI 0 - (nI y - nI x)) = apI (nI x) (nI y) := by
  unfold apI
  by_cases q : x ≤ y
  · rw [ni_sub q, if_pos (nI_le (by omega) (by omega)), if_pos (nI_le q (by omega))]
  · have hn := of_eq_true (e_neg (a := y) (b := x) (by omega) (by omega))
    rw [if_neg (fa_of_lt hn).2.1, if_neg (nI_ge (by omega) (by omega))]
    rw [fa_eq]
    have e1 : (nI y - nI x).toInt = (y : Int) - x := by
      rw [fb_subI, nI_toInt (by omega), nI_toInt (by omega)]
      · rw [nI_toInt (by omega), nI_toInt (by omega)]; omega
      · rw [nI_toInt (by omega), nI_toInt (by omega)]; omega
    have e2 : (nI x - nI y).toInt = (x : Int) - y := by
      rw [fb_subI, nI_toInt (by omega), nI_toInt (by omega)]
      · rw [nI_toInt (by omega), nI_toInt (by omega)]; omega
      · rw [nI_toInt (by omega), nI_toInt (by omega)]; omega
    rw [fb_subI, e1, e2, nI_toInt (by decide)]
    · omega
    · rw [e1, nI_toInt (by decide)]; omega
    · rw [e1, nI_toInt (by decide)]; omega
theorem c_fits {f o p : Nat → Int32} {n T a b : Nat} {od : Nat → Nat} {g : Nat → Int32} {gp tl : Int32} (h : RE f o p n od g T) (ha : a < n) (hb : b < n) : (FT g gp tl a b → sX4_fits (lgv f o p n) (nI a) (nI b) gp tl = some (nI 1)) ∧ (¬ FT g gp tl a b → sX4_fits (lgv f o p n) (nI a) (nI b) gp tl = some (nI 0)) := by
  have r := fun e (he : e < n) j (hj : j < 5) => c_read h (e := e) (j := j) he hj
  have a0 := r a ha 0 (by omega)
  have a2 := r a ha 2 (by omega)
  have a3 := r a ha 3 (by omega)
  have a4 := r a ha 4 (by omega)
  have b0 := r b hb 0 (by omega)
  have b1 := r b hb 1 (by omega)
  have b3 := r b hb 3 (by omega)
  obtain ⟨-, -, -, -, -, h6, -⟩ := id h
  obtain ⟨-, -, -, ⟨x, hx, ex⟩, -⟩ := h6 a ha
  obtain ⟨-, -, -, ⟨y, hy, ey⟩, -⟩ := h6 b hb
  have hab := absd hx hy
  unfold FT
  rw [ex, ey]
  rw [ex] at a3
  rw [ey] at b3
  by_cases q1 : EV g a 4 = nI 0
  · by_cases q2 : EV g a 0 = EV g b 0
    · refine ⟨fun z => absurd q2 z.2.1, fun _ => ?_⟩
      simp (disch := omega) only [sX4_fits, a0, a2, a3, a4, b0, b1, b3, q1, q2, ↓reduceIte, e_lt, e_bd, e_grd, e_clamp, e_l0, e_l1, e_l2, e_l3, e_l4, e_l5, e_l6, e_l7, e_l8, e_l9, e_l10, e_l12, e_l13, e_l20, e_l31, e_l32, e_l45, e_l48, e_l50, e_l57, e_l58, e_l59, e_l64, e_l70, e_l100, e_l106, e_l127, e_l138, e_l554, e_l799, e_l804, e_l1000, e_l2000, e_l2412, e_l100000, e_m1, nI_add, ni_mul, ni_sub, nI_clamp, e_ltT, e_ltF, e_leT, e_leF, e_eqT, e_eqF, e_mE, e_Em, e_mlt, e_mle, e_ltm, e_lem, e_gz, e_gt, e_bs, ite_self, e_el, e_er, tq_get, tq_set, tq_inc, tb_get_neg, tb_set_neg, and_true, true_and, and_false, false_and, not_false_eq_true, not_true_eq_false] <;> rfl
    · by_cases q3 : EV g b 1 - EV g a 2 < nI 1
      · refine ⟨fun z => absurd z.2.2.1 (fa_of_lt q3).2.1, fun _ => ?_⟩
        simp (disch := omega) only [sX4_fits, a0, a2, a3, a4, b0, b1, b3, q1, q2, q3, ↓reduceIte, e_lt, e_bd, e_grd, e_clamp, e_l0, e_l1, e_l2, e_l3, e_l4, e_l5, e_l6, e_l7, e_l8, e_l9, e_l10, e_l12, e_l13, e_l20, e_l31, e_l32, e_l45, e_l48, e_l50, e_l57, e_l58, e_l59, e_l64, e_l70, e_l100, e_l106, e_l127, e_l138, e_l554, e_l799, e_l804, e_l1000, e_l2000, e_l2412, e_l100000, e_m1, nI_add, ni_mul, ni_sub, nI_clamp, e_ltT, e_ltF, e_leT, e_leF, e_eqT, e_eqF, e_mE, e_Em, e_mlt, e_mle, e_ltm, e_lem, e_gz, e_gt, e_bs, ite_self, e_el, e_er, tq_get, tq_set, tq_inc, tb_get_neg, tb_set_neg, and_true, true_and, and_false, false_and, not_false_eq_true, not_true_eq_false] <;> rfl
      · by_cases q4 : gp < EV g b 1 - EV g a 2
        · refine ⟨fun z => absurd z.2.2.2.1 (fa_of_lt q4).2.1, fun _ => ?_⟩
          simp (disch := omega) only [sX4_fits, a0, a2, a3, a4, b0, b1, b3, q1, q2, q3, q4, ↓reduceIte, e_lt, e_bd, e_grd, e_clamp, e_l0, e_l1, e_l2, e_l3, e_l4, e_l5, e_l6, e_l7, e_l8, e_l9, e_l10, e_l12, e_l13, e_l20, e_l31, e_l32, e_l45, e_l48, e_l50, e_l57, e_l58, e_l59, e_l64, e_l70, e_l100, e_l106, e_l127, e_l138, e_l554, e_l799, e_l804, e_l1000, e_l2000, e_l2412, e_l100000, e_m1, nI_add, ni_mul, ni_sub, nI_clamp, e_ltT, e_ltF, e_leT, e_leF, e_eqT, e_eqF, e_mE, e_Em, e_mlt, e_mle, e_ltm, e_lem, e_gz, e_gt, e_bs, ite_self, e_el, e_er, tq_get, tq_set, tq_inc, tb_get_neg, tb_set_neg, and_true, true_and, and_false, false_and, not_false_eq_true, not_true_eq_false] <;> rfl
        · by_cases q5 : tl < apI (nI x) (nI y)
          · refine ⟨fun z => absurd q5 z.2.2.2.2, fun _ => ?_⟩
            simp only [sX4_fits, e_l0, e_l1, e_l2, e_l3, e_l4, a0, a2, a3, a4, b0, b1, b3, q1, q2, q3, q4, e_bd, ↓reduceIte, e_lt, hab, q5]
          · refine ⟨fun _ => ?_, fun z => absurd ⟨q1, q2, fa_of_nlt q3, fa_of_nlt q4, q5⟩ z⟩
            simp only [sX4_fits, e_l0, e_l1, e_l2, e_l3, e_l4, a0, a2, a3, a4, b0, b1, b3, q1, q2, q3, q4, e_bd, ↓reduceIte, e_lt, hab, q5]
  · refine ⟨fun z => absurd z.1 q1, fun _ => ?_⟩
    simp (disch := omega) only [sX4_fits, a0, a2, a3, a4, b0, b1, b3, q1, ↓reduceIte, e_lt, e_bd, e_grd, e_clamp, e_l0, e_l1, e_l2, e_l3, e_l4, e_l5, e_l6, e_l7, e_l8, e_l9, e_l10, e_l12, e_l13, e_l20, e_l31, e_l32, e_l45, e_l48, e_l50, e_l57, e_l58, e_l59, e_l64, e_l70, e_l100, e_l106, e_l127, e_l138, e_l554, e_l799, e_l804, e_l1000, e_l2000, e_l2412, e_l100000, e_m1, nI_add, ni_mul, ni_sub, nI_clamp, e_ltT, e_ltF, e_leT, e_leF, e_eqT, e_eqF, e_mE, e_Em, e_mlt, e_mle, e_ltm, e_lem, e_gz, e_gt, e_bs, ite_self, e_el, e_er, tq_get, tq_set, tq_inc, tb_get_neg, tb_set_neg, and_true, true_and, and_false, false_and, not_false_eq_true, not_true_eq_false] <;> rfl
/-! the reference: is a taken already -/
theorem q_free {w : V11} {a b : Nat} {F : Nat → Int32} (h5 : w.2.2.2.2.2.2.2.2.2.2.2.2.1.1 = 50) (hb : b ≤ 50) : ∀ (d i M : Nat), i + d = b → d < M → (qX11_laysChains_72 w (nI b) (nI a) F M (nI 0) (nI i) = some (nI 0, nI b)) ∧ ((∀ k, i ≤ k → k < b → F k ≠ nI a) → qX11_laysChains_72 w (nI b) (nI a) F M (nI 1) (nI i) = some (nI 1, nI b)) ∧ ((∃ k, i ≤ k ∧ k < b ∧ F k = nI a) → qX11_laysChains_72 w (nI b) (nI a) F M (nI 1) (nI i) = some (nI 0, nI b)) := by
  intro d
  induction d with
  | zero =>
    intro i M hi hM
    obtain ⟨M, rfl⟩ : ∃ N', M = N' + 1 := ⟨M - 1, by omega⟩
    have : i = b := by omega
    subst this
    refine ⟨?_, fun _ => ?_, fun ⟨k, h1, h2, _⟩ => by omega⟩
    · rw [qX11_laysChains_72]
      simp (disch := omega) only [↓reduceIte, e_lt, e_bd, e_grd, e_clamp, e_l0, e_l1, e_l2, e_l3, e_l4, e_l5, e_l6, e_l7, e_l8, e_l9, e_l10, e_l12, e_l13, e_l20, e_l31, e_l32, e_l45, e_l48, e_l50, e_l57, e_l58, e_l59, e_l64, e_l70, e_l100, e_l106, e_l127, e_l138, e_l554, e_l799, e_l804, e_l1000, e_l2000, e_l2412, e_l100000, e_m1, nI_add, ni_mul, ni_sub, nI_clamp, e_ltT, e_ltF, e_leT, e_leF, e_eqT, e_eqF, e_mE, e_Em, e_mlt, e_mle, e_ltm, e_lem, e_gz, e_gt, e_bs, ite_self, e_el, e_er, tq_get, tq_set, tq_inc, tb_get_neg, tb_set_neg, and_true, true_and, and_false, false_and, not_false_eq_true, not_true_eq_false] <;> rfl
    · rw [qX11_laysChains_72]
      simp (disch := omega) only [↓reduceIte, e_lt, e_bd, e_grd, e_clamp, e_l0, e_l1, e_l2, e_l3, e_l4, e_l5, e_l6, e_l7, e_l8, e_l9, e_l10, e_l12, e_l13, e_l20, e_l31, e_l32, e_l45, e_l48, e_l50, e_l57, e_l58, e_l59, e_l64, e_l70, e_l100, e_l106, e_l127, e_l138, e_l554, e_l799, e_l804, e_l1000, e_l2000, e_l2412, e_l100000, e_m1, nI_add, ni_mul, ni_sub, nI_clamp, e_ltT, e_ltF, e_leT, e_leF, e_eqT, e_eqF, e_mE, e_Em, e_mlt, e_mle, e_ltm, e_lem, e_gz, e_gt, e_bs, ite_self, e_el, e_er, tq_get, tq_set, tq_inc, tb_get_neg, tb_set_neg, and_true, true_and, and_false, false_and, not_false_eq_true, not_true_eq_false] <;> rfl
  | succ d ih =>
    intro i M hi hM
    obtain ⟨M, rfl⟩ : ∃ N', M = N' + 1 := ⟨M - 1, by omega⟩
    obtain ⟨i1, i2, i3⟩ := ih (i + 1) M (by omega) (by omega)
    refine ⟨?_, fun hno => ?_, fun ⟨k, h1, h2, h3⟩ => ?_⟩
    · rw [qX11_laysChains_72]
      simp (disch := omega) only [i1, ↓reduceIte, e_lt, e_bd, e_grd, e_clamp, e_l0, e_l1, e_l2, e_l3, e_l4, e_l5, e_l6, e_l7, e_l8, e_l9, e_l10, e_l12, e_l13, e_l20, e_l31, e_l32, e_l45, e_l48, e_l50, e_l57, e_l58, e_l59, e_l64, e_l70, e_l100, e_l106, e_l127, e_l138, e_l554, e_l799, e_l804, e_l1000, e_l2000, e_l2412, e_l100000, e_m1, nI_add, ni_mul, ni_sub, nI_clamp, e_ltT, e_ltF, e_leT, e_leF, e_eqT, e_eqF, e_mE, e_Em, e_mlt, e_mle, e_ltm, e_lem, e_gz, e_gt, e_bs, ite_self, e_el, e_er, tq_get, tq_set, tq_inc, tb_get_neg, tb_set_neg, and_true, true_and, and_false, false_and, not_false_eq_true, not_true_eq_false] <;> rfl
    · have q := hno i (by omega) (by omega)
      have i2 := i2 (fun k z1 z2 => hno k (by omega) z2)
      rw [qX11_laysChains_72]
      simp (disch := omega) only [h5, q, i2, ↓reduceIte, e_lt, e_bd, e_grd, e_clamp, e_l0, e_l1, e_l2, e_l3, e_l4, e_l5, e_l6, e_l7, e_l8, e_l9, e_l10, e_l12, e_l13, e_l20, e_l31, e_l32, e_l45, e_l48, e_l50, e_l57, e_l58, e_l59, e_l64, e_l70, e_l100, e_l106, e_l127, e_l138, e_l554, e_l799, e_l804, e_l1000, e_l2000, e_l2412, e_l100000, e_m1, nI_add, ni_mul, ni_sub, nI_clamp, e_ltT, e_ltF, e_leT, e_leF, e_eqT, e_eqF, e_mE, e_Em, e_mlt, e_mle, e_ltm, e_lem, e_gz, e_gt, e_bs, ite_self, e_el, e_er, tq_get, tq_set, tq_inc, tb_get_neg, tb_set_neg, and_true, true_and, and_false, false_and, not_false_eq_true, not_true_eq_false] <;> rfl
    · rw [qX11_laysChains_72]
      by_cases q : F i = nI a
      · simp (disch := omega) only [h5, q, i1, ↓reduceIte, e_lt, e_bd, e_grd, e_clamp, e_l0, e_l1, e_l2, e_l3, e_l4, e_l5, e_l6, e_l7, e_l8, e_l9, e_l10, e_l12, e_l13, e_l20, e_l31, e_l32, e_l45, e_l48, e_l50, e_l57, e_l58, e_l59, e_l64, e_l70, e_l100, e_l106, e_l127, e_l138, e_l554, e_l799, e_l804, e_l1000, e_l2000, e_l2412, e_l100000, e_m1, nI_add, ni_mul, ni_sub, nI_clamp, e_ltT, e_ltF, e_leT, e_leF, e_eqT, e_eqF, e_mE, e_Em, e_mlt, e_mle, e_ltm, e_lem, e_gz, e_gt, e_bs, ite_self, e_el, e_er, tq_get, tq_set, tq_inc, tb_get_neg, tb_set_neg, and_true, true_and, and_false, false_and, not_false_eq_true, not_true_eq_false] <;> rfl
      · have i3 := i3 ⟨k, by
          rcases Nat.lt_or_ge i k with z | z
          · omega
          · have : k = i := by omega
            subst this
            exact absurd h3 q, h2, h3⟩
        simp (disch := omega) only [h5, q, i3, ↓reduceIte, e_lt, e_bd, e_grd, e_clamp, e_l0, e_l1, e_l2, e_l3, e_l4, e_l5, e_l6, e_l7, e_l8, e_l9, e_l10, e_l12, e_l13, e_l20, e_l31, e_l32, e_l45, e_l48, e_l50, e_l57, e_l58, e_l59, e_l64, e_l70, e_l100, e_l106, e_l127, e_l138, e_l554, e_l799, e_l804, e_l1000, e_l2000, e_l2412, e_l100000, e_m1, nI_add, ni_mul, ni_sub, nI_clamp, e_ltT, e_ltF, e_leT, e_leF, e_eqT, e_eqF, e_mE, e_Em, e_mlt, e_mle, e_ltm, e_lem, e_gz, e_gt, e_bs, ite_self, e_el, e_er, tq_get, tq_set, tq_inc, tb_get_neg, tb_set_neg, and_true, true_and, and_false, false_and, not_false_eq_true, not_true_eq_false] <;> rfl
/-! the reference's step for one candidate -/
theorem m_ap (x y : Int32) : sX11_apart x y = some (apI x y) := by
  unfold sX11_apart apI
  split <;> rfl
theorem m_candJ {w : V11} {N a b : Nat} {F : Nat → Int32} {gp tl : Int32} (hz : w.1.1 = 804) (h5 : w.2.2.2.2.2.2.2.2.2.2.2.2.1.1 = 50) (g3 : w.1.2 3 = gp) (g4 : w.1.2 4 = tl) (ha : a < b) (hb : b < 50) (hN : 5000 ≤ N) (M : Nat)
    (X : Int32) (hX : (FT w.1.2 gp tl a b ∧ (∀ k, k < b → F k ≠ nI a)) → (if F b = m1 then some (nI a) else ((sX11_eventAt (F b) (nI 2)).bind (fun o556 => grd (vp_in o556 804) (if w.1.2 (554 + 5 * a + 2) < w.1.2 o556.toNatClampNeg then some (F b) else some (nI a))))) = some X) (hX2 : ¬ (FT w.1.2 gp tl a b ∧ (∀ k, k < b → F k ≠ nI a)) → F b = X) : qX11_laysChains_22 N w (nI b) (M + 1) (nI a) F = qX11_laysChains_22 N w (nI b) M (nI (a + 1)) (upd F b X) := by
  obtain ⟨i1, i2, i3⟩ := q_free (w := w) (a := a) (F := F) h5 (show b ≤ 50 by omega) b 0 N (by omega) (by omega)
  rw [qX11_laysChains_22]
  by_cases q1 : w.1.2 (554 + 5 * a + 4) = nI 0
  case neg =>
    have e := hX2 (fun z => q1 z.1.1)
    simp (disch := omega) only [hz, h5, sX11_eventAt, q1, i1, e, ↓reduceIte, e_lt, e_bd, e_grd, e_clamp, e_l0, e_l1, e_l2, e_l3, e_l4, e_l5, e_l6, e_l7, e_l8, e_l9, e_l10, e_l12, e_l13, e_l20, e_l31, e_l32, e_l45, e_l48, e_l50, e_l57, e_l58, e_l59, e_l64, e_l70, e_l100, e_l106, e_l127, e_l138, e_l554, e_l799, e_l804, e_l1000, e_l2000, e_l2412, e_l100000, e_m1, nI_add, ni_mul, ni_sub, nI_clamp, e_ltT, e_ltF, e_leT, e_leF, e_eqT, e_eqF, e_mE, e_Em, e_mlt, e_mle, e_ltm, e_lem, e_gz, e_gt, e_bs, ite_self, e_el, e_er, tq_get, tq_set, tq_inc, tb_get_neg, tb_set_neg, and_true, true_and, and_false, false_and, not_false_eq_true, not_true_eq_false] <;> rfl
  by_cases q2 : w.1.2 (554 + 5 * a + 0) = w.1.2 (554 + 5 * b + 0)
  case pos =>
    have e := hX2 (fun z => z.1.2.1 q2)
    simp (disch := omega) only [hz, h5, sX11_eventAt, q1, q2, i1, e, ↓reduceIte, e_lt, e_bd, e_grd, e_clamp, e_l0, e_l1, e_l2, e_l3, e_l4, e_l5, e_l6, e_l7, e_l8, e_l9, e_l10, e_l12, e_l13, e_l20, e_l31, e_l32, e_l45, e_l48, e_l50, e_l57, e_l58, e_l59, e_l64, e_l70, e_l100, e_l106, e_l127, e_l138, e_l554, e_l799, e_l804, e_l1000, e_l2000, e_l2412, e_l100000, e_m1, nI_add, ni_mul, ni_sub, nI_clamp, e_ltT, e_ltF, e_leT, e_leF, e_eqT, e_eqF, e_mE, e_Em, e_mlt, e_mle, e_ltm, e_lem, e_gz, e_gt, e_bs, ite_self, e_el, e_er, tq_get, tq_set, tq_inc, tb_get_neg, tb_set_neg, and_true, true_and, and_false, false_and, not_false_eq_true, not_true_eq_false] <;> rfl
  by_cases q3 : ∀ k, k < b → F k ≠ nI a
  case neg =>
    have e := hX2 (fun z => q3 z.2)
    have i3 := i3 (Classical.byContradiction fun z => q3 (fun k hk hk2 => z ⟨k, by omega, hk, hk2⟩))
    simp (disch := omega) only [hz, h5, sX11_eventAt, q1, q2, i3, e, ↓reduceIte, e_lt, e_bd, e_grd, e_clamp, e_l0, e_l1, e_l2, e_l3, e_l4, e_l5, e_l6, e_l7, e_l8, e_l9, e_l10, e_l12, e_l13, e_l20, e_l31, e_l32, e_l45, e_l48, e_l50, e_l57, e_l58, e_l59, e_l64, e_l70, e_l100, e_l106, e_l127, e_l138, e_l554, e_l799, e_l804, e_l1000, e_l2000, e_l2412, e_l100000, e_m1, nI_add, ni_mul, ni_sub, nI_clamp, e_ltT, e_ltF, e_leT, e_leF, e_eqT, e_eqF, e_mE, e_Em, e_mlt, e_mle, e_ltm, e_lem, e_gz, e_gt, e_bs, ite_self, e_el, e_er, tq_get, tq_set, tq_inc, tb_get_neg, tb_set_neg, and_true, true_and, and_false, false_and, not_false_eq_true, not_true_eq_false] <;> rfl
  have i2 := i2 (fun k _ hk => q3 k hk)
  by_cases q4 : nI 1 ≤ w.1.2 (554 + 5 * b + 1) - w.1.2 (554 + 5 * a + 2) ∧ w.1.2 (554 + 5 * b + 1) - w.1.2 (554 + 5 * a + 2) ≤ gp
  case neg =>
    have e := hX2 (fun z => q4 ⟨z.1.2.2.1, z.1.2.2.2.1⟩)
    simp (disch := omega) only [hz, h5, sX11_eventAt, q1, q2, i2, g3, m_in_1, q4, e, ↓reduceIte, e_lt, e_bd, e_grd, e_clamp, e_l0, e_l1, e_l2, e_l3, e_l4, e_l5, e_l6, e_l7, e_l8, e_l9, e_l10, e_l12, e_l13, e_l20, e_l31, e_l32, e_l45, e_l48, e_l50, e_l57, e_l58, e_l59, e_l64, e_l70, e_l100, e_l106, e_l127, e_l138, e_l554, e_l799, e_l804, e_l1000, e_l2000, e_l2412, e_l100000, e_m1, nI_add, ni_mul, ni_sub, nI_clamp, e_ltT, e_ltF, e_leT, e_leF, e_eqT, e_eqF, e_mE, e_Em, e_mlt, e_mle, e_ltm, e_lem, e_gz, e_gt, e_bs, ite_self, e_el, e_er, tq_get, tq_set, tq_inc, tb_get_neg, tb_set_neg, and_true, true_and, and_false, false_and, not_false_eq_true, not_true_eq_false] <;> rfl
  by_cases q5 : tl < apI (w.1.2 (554 + 5 * a + 3)) (w.1.2 (554 + 5 * b + 3))
  case pos =>
    have e := hX2 (fun z => z.1.2.2.2.2 q5)
    simp (disch := omega) only [hz, h5, sX11_eventAt, q1, q2, i2, g3, g4, m_in_1, q4, m_ap, q5, e, ↓reduceIte, e_lt, e_bd, e_grd, e_clamp, e_l0, e_l1, e_l2, e_l3, e_l4, e_l5, e_l6, e_l7, e_l8, e_l9, e_l10, e_l12, e_l13, e_l20, e_l31, e_l32, e_l45, e_l48, e_l50, e_l57, e_l58, e_l59, e_l64, e_l70, e_l100, e_l106, e_l127, e_l138, e_l554, e_l799, e_l804, e_l1000, e_l2000, e_l2412, e_l100000, e_m1, nI_add, ni_mul, ni_sub, nI_clamp, e_ltT, e_ltF, e_leT, e_leF, e_eqT, e_eqF, e_mE, e_Em, e_mlt, e_mle, e_ltm, e_lem, e_gz, e_gt, e_bs, ite_self, e_el, e_er, tq_get, tq_set, tq_inc, tb_get_neg, tb_set_neg, and_true, true_and, and_false, false_and, not_false_eq_true, not_true_eq_false] <;> rfl
  have e := hX ⟨⟨q1, q2, q4.1, q4.2, q5⟩, q3⟩
  unfold sX11_eventAt at e
  simp (disch := omega) only [e_l554, e_l5, e_bd] at e
  simp (disch := omega) only [hz, h5, sX11_eventAt, q1, q2, i2, g3, g4, m_in_1, q4, m_ap, q5, e, ↓reduceIte, e_lt, e_bd, e_grd, e_clamp, e_l0, e_l1, e_l2, e_l3, e_l4, e_l5, e_l6, e_l7, e_l8, e_l9, e_l10, e_l12, e_l13, e_l20, e_l31, e_l32, e_l45, e_l48, e_l50, e_l57, e_l58, e_l59, e_l64, e_l70, e_l100, e_l106, e_l127, e_l138, e_l554, e_l799, e_l804, e_l1000, e_l2000, e_l2412, e_l100000, e_m1, nI_add, ni_mul, ni_sub, nI_clamp, e_ltT, e_ltF, e_leT, e_leF, e_eqT, e_eqF, e_mE, e_Em, e_mlt, e_mle, e_ltm, e_lem, e_gz, e_gt, e_bs, ite_self, e_el, e_er, tq_get, tq_set, tq_inc, tb_get_neg, tb_set_neg, and_true, true_and, and_false, false_and, not_false_eq_true, not_true_eq_false] <;> rfl
