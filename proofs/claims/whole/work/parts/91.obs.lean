/-! one observation: the detectors -/
theorem c_obs {f1 f2 f3 : Nat → Int32} {c ob : Nat} (hc : c < 32) (hob : f1 (c * 4 + 0) = nI ob) (hb : ob < 2 ^ 30) (lev : Int32) {hit : Nat} (hh : hit ≤ 1) :
    ∃ f' : Nat → Int32, sX1_observe ((nI 32, nI 4, 32 * 4, f1), (nI 32, nI 8, 32 * 8, f2), (nI 32, nI 1, 32 * 1, f3)) (nI c) lev (nI hit) = some ((nI 32, nI 4, 32 * 4, f'), (nI 32, nI 8, 32 * 8, upd f2 (c * 8 + ob % 8) lev), (nI 32, nI 1, 32 * 1, f3)) ∧ (∀ k, ¬ (c * 4 ≤ k ∧ k < c * 4 + 4) → f' k = f1 k) ∧ f' (c * 4 + 0) = nI (ob + 1) ∧ f' (c * 4 + 1) = (if hit = 0 then f1 (c * 4 + 1) else f1 (c * 4 + 1) + nI 1) ∧ f' (c * 4 + 2) = (if lev ≤ f1 (c * 4 + 2) then f1 (c * 4 + 2) else lev) ∧ f' (c * 4 + 3) = (if lev ≤ f3 (c * 1 + 0) then f1 (c * 4 + 3) else f1 (c * 4 + 3) + nI 1) := by
  rcases (show hit = 0 ∨ hit = 1 by omega) with rfl | rfl
  · by_cases h2 : lev ≤ f3 (c * 1 + 0)
    · by_cases h3 : lev ≤ f1 (c * 4 + 2)
      · refine ⟨_, by simp (disch := omega) only [sX1_observe, pk_rem, hob, sX1_maskOf, e_ne, h2, h3, ↓reduceIte, e_lt, e_bd, e_grd, e_clamp, e_l0, e_l1, e_l2, e_l3, e_l4, e_l5, e_l6, e_l7, e_l8, e_l9, e_l10, e_l12, e_l13, e_l20, e_l31, e_l32, e_l45, e_l48, e_l50, e_l57, e_l58, e_l59, e_l64, e_l70, e_l100, e_l106, e_l127, e_l138, e_l554, e_l799, e_l804, e_l1000, e_l2000, e_l2412, e_l100000, e_m1, nI_add, ni_mul, ni_sub, nI_clamp, e_ltT, e_ltF, e_leT, e_leF, e_eqT, e_eqF, e_mE, e_Em, e_mlt, e_mle, e_ltm, e_lem, e_gz, e_gt, e_bs, ite_self, e_el, e_er, tq_get, tq_set, tq_inc, tb_get_neg, tb_set_neg, and_true, true_and, and_false, false_and, not_false_eq_true, not_true_eq_false] <;> rfl, fun k hk => by simp (disch := omega) only [e_ne], by simp (disch := omega) only [e_ne, e_eq], by simp (disch := omega) only [e_ne, e_eq, h2, h3, ↓reduceIte], by simp (disch := omega) only [e_ne, e_eq, h2, h3, ↓reduceIte], by simp (disch := omega) only [e_ne, e_eq, h2, h3, ↓reduceIte]⟩
      · refine ⟨_, by simp (disch := omega) only [sX1_observe, pk_rem, hob, sX1_maskOf, e_ne, h2, h3, ↓reduceIte, e_lt, e_bd, e_grd, e_clamp, e_l0, e_l1, e_l2, e_l3, e_l4, e_l5, e_l6, e_l7, e_l8, e_l9, e_l10, e_l12, e_l13, e_l20, e_l31, e_l32, e_l45, e_l48, e_l50, e_l57, e_l58, e_l59, e_l64, e_l70, e_l100, e_l106, e_l127, e_l138, e_l554, e_l799, e_l804, e_l1000, e_l2000, e_l2412, e_l100000, e_m1, nI_add, ni_mul, ni_sub, nI_clamp, e_ltT, e_ltF, e_leT, e_leF, e_eqT, e_eqF, e_mE, e_Em, e_mlt, e_mle, e_ltm, e_lem, e_gz, e_gt, e_bs, ite_self, e_el, e_er, tq_get, tq_set, tq_inc, tb_get_neg, tb_set_neg, and_true, true_and, and_false, false_and, not_false_eq_true, not_true_eq_false] <;> rfl, fun k hk => by simp (disch := omega) only [e_ne], by simp (disch := omega) only [e_ne, e_eq], by simp (disch := omega) only [e_ne, e_eq, h2, h3, ↓reduceIte], by simp (disch := omega) only [e_ne, e_eq, h2, h3, ↓reduceIte], by simp (disch := omega) only [e_ne, e_eq, h2, h3, ↓reduceIte]⟩
    · by_cases h3 : lev ≤ f1 (c * 4 + 2)
      · refine ⟨_, by simp (disch := omega) only [sX1_observe, pk_rem, hob, sX1_maskOf, e_ne, h2, h3, ↓reduceIte, e_lt, e_bd, e_grd, e_clamp, e_l0, e_l1, e_l2, e_l3, e_l4, e_l5, e_l6, e_l7, e_l8, e_l9, e_l10, e_l12, e_l13, e_l20, e_l31, e_l32, e_l45, e_l48, e_l50, e_l57, e_l58, e_l59, e_l64, e_l70, e_l100, e_l106, e_l127, e_l138, e_l554, e_l799, e_l804, e_l1000, e_l2000, e_l2412, e_l100000, e_m1, nI_add, ni_mul, ni_sub, nI_clamp, e_ltT, e_ltF, e_leT, e_leF, e_eqT, e_eqF, e_mE, e_Em, e_mlt, e_mle, e_ltm, e_lem, e_gz, e_gt, e_bs, ite_self, e_el, e_er, tq_get, tq_set, tq_inc, tb_get_neg, tb_set_neg, and_true, true_and, and_false, false_and, not_false_eq_true, not_true_eq_false] <;> rfl, fun k hk => by simp (disch := omega) only [e_ne], by simp (disch := omega) only [e_ne, e_eq], by simp (disch := omega) only [e_ne, e_eq, h2, h3, ↓reduceIte], by simp (disch := omega) only [e_ne, e_eq, h2, h3, ↓reduceIte], by simp (disch := omega) only [e_ne, e_eq, h2, h3, ↓reduceIte]⟩
      · refine ⟨_, by simp (disch := omega) only [sX1_observe, pk_rem, hob, sX1_maskOf, e_ne, h2, h3, ↓reduceIte, e_lt, e_bd, e_grd, e_clamp, e_l0, e_l1, e_l2, e_l3, e_l4, e_l5, e_l6, e_l7, e_l8, e_l9, e_l10, e_l12, e_l13, e_l20, e_l31, e_l32, e_l45, e_l48, e_l50, e_l57, e_l58, e_l59, e_l64, e_l70, e_l100, e_l106, e_l127, e_l138, e_l554, e_l799, e_l804, e_l1000, e_l2000, e_l2412, e_l100000, e_m1, nI_add, ni_mul, ni_sub, nI_clamp, e_ltT, e_ltF, e_leT, e_leF, e_eqT, e_eqF, e_mE, e_Em, e_mlt, e_mle, e_ltm, e_lem, e_gz, e_gt, e_bs, ite_self, e_el, e_er, tq_get, tq_set, tq_inc, tb_get_neg, tb_set_neg, and_true, true_and, and_false, false_and, not_false_eq_true, not_true_eq_false] <;> rfl, fun k hk => by simp (disch := omega) only [e_ne], by simp (disch := omega) only [e_ne, e_eq], by simp (disch := omega) only [e_ne, e_eq, h2, h3, ↓reduceIte], by simp (disch := omega) only [e_ne, e_eq, h2, h3, ↓reduceIte], by simp (disch := omega) only [e_ne, e_eq, h2, h3, ↓reduceIte]⟩
  · by_cases h2 : lev ≤ f3 (c * 1 + 0)
    · by_cases h3 : lev ≤ f1 (c * 4 + 2)
      · refine ⟨_, by simp (disch := omega) only [sX1_observe, pk_rem, hob, sX1_maskOf, e_ne, h2, h3, ↓reduceIte, e_lt, e_bd, e_grd, e_clamp, e_l0, e_l1, e_l2, e_l3, e_l4, e_l5, e_l6, e_l7, e_l8, e_l9, e_l10, e_l12, e_l13, e_l20, e_l31, e_l32, e_l45, e_l48, e_l50, e_l57, e_l58, e_l59, e_l64, e_l70, e_l100, e_l106, e_l127, e_l138, e_l554, e_l799, e_l804, e_l1000, e_l2000, e_l2412, e_l100000, e_m1, nI_add, ni_mul, ni_sub, nI_clamp, e_ltT, e_ltF, e_leT, e_leF, e_eqT, e_eqF, e_mE, e_Em, e_mlt, e_mle, e_ltm, e_lem, e_gz, e_gt, e_bs, ite_self, e_el, e_er, tq_get, tq_set, tq_inc, tb_get_neg, tb_set_neg, and_true, true_and, and_false, false_and, not_false_eq_true, not_true_eq_false] <;> rfl, fun k hk => by simp (disch := omega) only [e_ne], by simp (disch := omega) only [e_ne, e_eq], by simp (disch := omega) only [e_ne, e_eq, h2, h3, e_in, ↓reduceIte], by simp (disch := omega) only [e_ne, e_eq, h2, h3, ↓reduceIte], by simp (disch := omega) only [e_ne, e_eq, h2, h3, ↓reduceIte]⟩
      · refine ⟨_, by simp (disch := omega) only [sX1_observe, pk_rem, hob, sX1_maskOf, e_ne, h2, h3, ↓reduceIte, e_lt, e_bd, e_grd, e_clamp, e_l0, e_l1, e_l2, e_l3, e_l4, e_l5, e_l6, e_l7, e_l8, e_l9, e_l10, e_l12, e_l13, e_l20, e_l31, e_l32, e_l45, e_l48, e_l50, e_l57, e_l58, e_l59, e_l64, e_l70, e_l100, e_l106, e_l127, e_l138, e_l554, e_l799, e_l804, e_l1000, e_l2000, e_l2412, e_l100000, e_m1, nI_add, ni_mul, ni_sub, nI_clamp, e_ltT, e_ltF, e_leT, e_leF, e_eqT, e_eqF, e_mE, e_Em, e_mlt, e_mle, e_ltm, e_lem, e_gz, e_gt, e_bs, ite_self, e_el, e_er, tq_get, tq_set, tq_inc, tb_get_neg, tb_set_neg, and_true, true_and, and_false, false_and, not_false_eq_true, not_true_eq_false] <;> rfl, fun k hk => by simp (disch := omega) only [e_ne], by simp (disch := omega) only [e_ne, e_eq], by simp (disch := omega) only [e_ne, e_eq, h2, h3, e_in, ↓reduceIte], by simp (disch := omega) only [e_ne, e_eq, h2, h3, ↓reduceIte], by simp (disch := omega) only [e_ne, e_eq, h2, h3, ↓reduceIte]⟩
    · by_cases h3 : lev ≤ f1 (c * 4 + 2)
      · refine ⟨_, by simp (disch := omega) only [sX1_observe, pk_rem, hob, sX1_maskOf, e_ne, h2, h3, ↓reduceIte, e_lt, e_bd, e_grd, e_clamp, e_l0, e_l1, e_l2, e_l3, e_l4, e_l5, e_l6, e_l7, e_l8, e_l9, e_l10, e_l12, e_l13, e_l20, e_l31, e_l32, e_l45, e_l48, e_l50, e_l57, e_l58, e_l59, e_l64, e_l70, e_l100, e_l106, e_l127, e_l138, e_l554, e_l799, e_l804, e_l1000, e_l2000, e_l2412, e_l100000, e_m1, nI_add, ni_mul, ni_sub, nI_clamp, e_ltT, e_ltF, e_leT, e_leF, e_eqT, e_eqF, e_mE, e_Em, e_mlt, e_mle, e_ltm, e_lem, e_gz, e_gt, e_bs, ite_self, e_el, e_er, tq_get, tq_set, tq_inc, tb_get_neg, tb_set_neg, and_true, true_and, and_false, false_and, not_false_eq_true, not_true_eq_false] <;> rfl, fun k hk => by simp (disch := omega) only [e_ne], by simp (disch := omega) only [e_ne, e_eq], by simp (disch := omega) only [e_ne, e_eq, h2, h3, e_in, ↓reduceIte], by simp (disch := omega) only [e_ne, e_eq, h2, h3, ↓reduceIte], by simp (disch := omega) only [e_ne, e_eq, h2, h3, ↓reduceIte]⟩
      · refine ⟨_, by simp (disch := omega) only [sX1_observe, pk_rem, hob, sX1_maskOf, e_ne, h2, h3, ↓reduceIte, e_lt, e_bd, e_grd, e_clamp, e_l0, e_l1, e_l2, e_l3, e_l4, e_l5, e_l6, e_l7, e_l8, e_l9, e_l10, e_l12, e_l13, e_l20, e_l31, e_l32, e_l45, e_l48, e_l50, e_l57, e_l58, e_l59, e_l64, e_l70, e_l100, e_l106, e_l127, e_l138, e_l554, e_l799, e_l804, e_l1000, e_l2000, e_l2412, e_l100000, e_m1, nI_add, ni_mul, ni_sub, nI_clamp, e_ltT, e_ltF, e_leT, e_leF, e_eqT, e_eqF, e_mE, e_Em, e_mlt, e_mle, e_ltm, e_lem, e_gz, e_gt, e_bs, ite_self, e_el, e_er, tq_get, tq_set, tq_inc, tb_get_neg, tb_set_neg, and_true, true_and, and_false, false_and, not_false_eq_true, not_true_eq_false] <;> rfl, fun k hk => by simp (disch := omega) only [e_ne], by simp (disch := omega) only [e_ne, e_eq], by simp (disch := omega) only [e_ne, e_eq, h2, h3, e_in, ↓reduceIte], by simp (disch := omega) only [e_ne, e_eq, h2, h3, ↓reduceIte], by simp (disch := omega) only [e_ne, e_eq, h2, h3, ↓reduceIte]⟩
/-! the reference's row of a channel: latest levels shifted -/
theorem q_shift {w : V11} {c : Nat} (hz : w.1.1 = 804) (hc : c < 32) : ∀ (N i : Nat) (f : Nat → Int32), i ≤ 138 + 13 * c + 12 → 138 + 13 * c + 12 - i < N → ∃ f', qX11_observes_104 w (nI c) N (nI i) f = some (nI (138 + 13 * c + 12), f') ∧ ∀ k, f' k = if i ≤ k ∧ k < 138 + 13 * c + 12 then f (k + 1) else f k := by
  intro N
  induction N with
  | zero => intro i f _ h; omega
  | succ N ih =>
    intro i f hi hN
    unfold qX11_observes_104
    rcases Nat.lt_or_ge i (138 + 13 * c + 12) with hlt | hge
    · simp (disch := omega) only [hz, ↓reduceIte, e_lt, e_bd, e_grd, e_clamp, e_l0, e_l1, e_l2, e_l3, e_l4, e_l5, e_l6, e_l7, e_l8, e_l9, e_l10, e_l12, e_l13, e_l20, e_l31, e_l32, e_l45, e_l48, e_l50, e_l57, e_l58, e_l59, e_l64, e_l70, e_l100, e_l106, e_l127, e_l138, e_l554, e_l799, e_l804, e_l1000, e_l2000, e_l2412, e_l100000, e_m1, nI_add, ni_mul, ni_sub, nI_clamp, e_ltT, e_ltF, e_leT, e_leF, e_eqT, e_eqF, e_mE, e_Em, e_mlt, e_mle, e_ltm, e_lem, e_gz, e_gt, e_bs, ite_self, e_el, e_er, tq_get, tq_set, tq_inc, tb_get_neg, tb_set_neg, and_true, true_and, and_false, false_and, not_false_eq_true, not_true_eq_false]
      obtain ⟨f', e1, e2⟩ := ih (i + 1) (upd f i (f (i + 1))) (by omega) (by omega)
      refine ⟨f', e1, fun k => ?_⟩
      rw [e2 k]
      unfold upd
      by_cases q1 : k = i
      · subst q1
        rw [if_neg (by omega), if_pos rfl, if_pos (by omega)]
      · by_cases q2 : i ≤ k ∧ k < 138 + 13 * c + 12
        · rw [if_pos (by omega), if_neg (by omega), if_pos q2]
        · rw [if_neg (by omega), if_neg q1, if_neg q2]
    · have : i = 138 + 13 * c + 12 := by omega
      subst this
      simp (disch := omega) only [↓reduceIte, e_lt, e_bd, e_grd, e_clamp, e_l0, e_l1, e_l2, e_l3, e_l4, e_l5, e_l6, e_l7, e_l8, e_l9, e_l10, e_l12, e_l13, e_l20, e_l31, e_l32, e_l45, e_l48, e_l50, e_l57, e_l58, e_l59, e_l64, e_l70, e_l100, e_l106, e_l127, e_l138, e_l554, e_l799, e_l804, e_l1000, e_l2000, e_l2412, e_l100000, e_m1, nI_add, ni_mul, ni_sub, nI_clamp, e_ltT, e_ltF, e_leT, e_leF, e_eqT, e_eqF, e_mE, e_Em, e_mlt, e_mle, e_ltm, e_lem, e_gz, e_gt, e_bs, ite_self, e_el, e_er, tq_get, tq_set, tq_inc, tb_get_neg, tb_set_neg, and_true, true_and, and_false, false_and, not_false_eq_true, not_true_eq_false]
      exact ⟨f, rfl, fun k => by rw [if_neg (by omega)]⟩
/-- what the reference writes of the detectors -/
def obsF (g g' : Nat → Int32) (c ob : Nat) (lev : Int32) (hit : Bool) : Prop :=
  (∀ k, ¬ (138 + 13 * c ≤ k ∧ k < 138 + 13 * c + 13) → g' k = g k) ∧ g' (138 + 13 * c) = nI (ob + 1) ∧ g' (138 + 13 * c + 1) = (if hit then g (138 + 13 * c + 1) + nI 1 else g (138 + 13 * c + 1)) ∧ g' (138 + 13 * c + 2) = (if lev ≤ g (138 + 13 * c + 2) then g (138 + 13 * c + 2) else lev) ∧ g' (138 + 13 * c + 3) = (if lev ≤ g (106 + c) then g (138 + 13 * c + 3) else g (138 + 13 * c + 3) + nI 1) ∧ g' (138 + 13 * c + 4) = nI (min (ob + 1) 8) ∧ ∀ j, j < min (ob + 1) 8 → g' (138 + 13 * c + 5 + j) = if j + 1 = min (ob + 1) 8 then lev else g (138 + 13 * c + 5 + j + (if ob < 8 then 0 else 1))
abbrev obA (g : Nat → Int32) (c ob : Nat) (lev : Int32) : Nat → Int32 := upd (upd (upd g (138 + 13 * c) (nI (ob + 1))) (138 + 13 * c + 2) (if lev ≤ g (138 + 13 * c + 2) then g (138 + 13 * c + 2) else lev)) (138 + 13 * c + 3) (g (138 + 13 * c + 3) + if lev ≤ g (106 + c) then nI 0 else nI 1)
theorem e_a0if (x lev y : Int32) : (x + if lev ≤ y then nI 0 else nI 1) = if lev ≤ y then x else x + nI 1 := by
  split
  · exact e_a0 x
  · rfl
theorem dbl {α β : Type} (x : Option α) (c : α → Prop) [DecidablePred c] (k : α → Option β) (d : β) : (x.bind fun o => if c o then some d else x.bind k) = x.bind fun o => if c o then some d else k o := by
  cases x <;> rfl
section MO
variable {N c ob : Nat} {w : V11} {lev : Int32}
theorem m_obs1 (hN : 5000 ≤ N) (hz : w.1.1 = 804) (hc : c < 32) (hob : w.1.2 (138 + 13 * c) = nI ob) (hl : sX11_levelNow N w (nI c) = some lev) (ho : ob < 8) (h4 : w.1.2 (138 + 13 * c + 4) = nI ob) (hh : lev ≤ w.1.2 2) : sX11_observes N w (nI c) = ((sX11_openIn N ((w.1.1, upd (upd (obA w.1.2 c ob lev) (138 + 13 * c + 5 + ob) lev) (138 + 13 * c + 4) (nI (ob + 1))), w.2) (nI c)).bind (fun o44 => (if o44 = m1 then some ((w.1.1, upd (upd (obA w.1.2 c ob lev) (138 + 13 * c + 5 + ob) lev) (138 + 13 * c + 4) (nI (ob + 1))), w.2) else ((sX11_eventAt o44 (nI 4)).bind (fun o47 => grd (vp_in o47 w.1.1) (some ((w.1.1, upd (upd (upd (obA w.1.2 c ob lev) (138 + 13 * c + 5 + ob) lev) (138 + 13 * c + 4) (nI (ob + 1))) o47.toNatClampNeg (nI 0)), w.2))))))) := by
  rw [← dbl]
  simp (disch := omega) only [sX11_observes, hl, hz, hob, h4, e_ne, e_eq, bnd_if, hh, ↓reduceIte, e_lt, e_bd, e_grd, e_clamp, e_l0, e_l1, e_l2, e_l3, e_l4, e_l5, e_l6, e_l7, e_l8, e_l9, e_l10, e_l12, e_l13, e_l20, e_l31, e_l32, e_l45, e_l48, e_l50, e_l57, e_l58, e_l59, e_l64, e_l70, e_l100, e_l106, e_l127, e_l138, e_l554, e_l799, e_l804, e_l1000, e_l2000, e_l2412, e_l100000, e_m1, nI_add, ni_mul, ni_sub, nI_clamp, e_ltT, e_ltF, e_leT, e_leF, e_eqT, e_eqF, e_mE, e_Em, e_mlt, e_mle, e_ltm, e_lem, e_gz, e_gt, e_bs, ite_self, e_el, e_er, tq_get, tq_set, tq_inc, tb_get_neg, tb_set_neg, and_true, true_and, and_false, false_and, not_false_eq_true, not_true_eq_false] <;> rfl
theorem m_obs2 (hN : 5000 ≤ N) (hz : w.1.1 = 804) (hc : c < 32) (hob : w.1.2 (138 + 13 * c) = nI ob) (hl : sX11_levelNow N w (nI c) = some lev) (ho : ob < 8) (h4 : w.1.2 (138 + 13 * c + 4) = nI ob) (hh : ¬ lev ≤ w.1.2 2) : sX11_observes N w (nI c) = sX11_hits N ((w.1.1, upd (upd (upd (obA w.1.2 c ob lev) (138 + 13 * c + 5 + ob) lev) (138 + 13 * c + 4) (nI (ob + 1))) (138 + 13 * c + 1) (w.1.2 (138 + 13 * c + 1) + nI 1)), w.2) (nI c) lev := by
  simp (disch := omega) only [sX11_observes, hl, hz, hob, h4, e_ne, e_eq, bnd_if, hh, ↓reduceIte, e_lt, e_bd, e_grd, e_clamp, e_l0, e_l1, e_l2, e_l3, e_l4, e_l5, e_l6, e_l7, e_l8, e_l9, e_l10, e_l12, e_l13, e_l20, e_l31, e_l32, e_l45, e_l48, e_l50, e_l57, e_l58, e_l59, e_l64, e_l70, e_l100, e_l106, e_l127, e_l138, e_l554, e_l799, e_l804, e_l1000, e_l2000, e_l2412, e_l100000, e_m1, nI_add, ni_mul, ni_sub, nI_clamp, e_ltT, e_ltF, e_leT, e_leF, e_eqT, e_eqF, e_mE, e_Em, e_mlt, e_mle, e_ltm, e_lem, e_gz, e_gt, e_bs, ite_self, e_el, e_er, tq_get, tq_set, tq_inc, tb_get_neg, tb_set_neg, and_true, true_and, and_false, false_and, not_false_eq_true, not_true_eq_false] <;> rfl
theorem m_obs3 (hN : 5000 ≤ N) (hz : w.1.1 = 804) (hc : c < 32) (hob : w.1.2 (138 + 13 * c) = nI ob) (hl : sX11_levelNow N w (nI c) = some lev) (h4 : w.1.2 (138 + 13 * c + 4) = nI 8) (hh : lev ≤ w.1.2 2) {f : Nat → Int32} (hq : qX11_observes_104 w (nI c) N (nI (138 + 13 * c + 5)) (obA w.1.2 c ob lev) = some (nI (138 + 13 * c + 12), f)) (hf4 : f (138 + 13 * c + 4) = nI 8) (hf2 : f 2 = w.1.2 2) : sX11_observes N w (nI c) = ((sX11_openIn N ((w.1.1, upd (upd (upd f (138 + 13 * c + 4) (nI 7)) (138 + 13 * c + 5 + 7) lev) (138 + 13 * c + 4) (nI 8)), w.2) (nI c)).bind (fun o44 => (if o44 = m1 then some ((w.1.1, upd (upd (upd f (138 + 13 * c + 4) (nI 7)) (138 + 13 * c + 5 + 7) lev) (138 + 13 * c + 4) (nI 8)), w.2) else ((sX11_eventAt o44 (nI 4)).bind (fun o47 => grd (vp_in o47 w.1.1) (some ((w.1.1, upd (upd (upd (upd f (138 + 13 * c + 4) (nI 7)) (138 + 13 * c + 5 + 7) lev) (138 + 13 * c + 4) (nI 8)) o47.toNatClampNeg (nI 0)), w.2))))))) := by
  rw [← dbl]
  have e7 : (8 : Nat) - 1 = 7 := rfl
  have e8 : (7 : Nat) + 1 = 8 := rfl
  simp (disch := omega) only [sX11_observes, hl, hz, hob, h4, e_ne, e_eq, bnd_if, hq, hf4, hf2, hh, e7, e8, ↓reduceIte, e_lt, e_bd, e_grd, e_clamp, e_l0, e_l1, e_l2, e_l3, e_l4, e_l5, e_l6, e_l7, e_l8, e_l9, e_l10, e_l12, e_l13, e_l20, e_l31, e_l32, e_l45, e_l48, e_l50, e_l57, e_l58, e_l59, e_l64, e_l70, e_l100, e_l106, e_l127, e_l138, e_l554, e_l799, e_l804, e_l1000, e_l2000, e_l2412, e_l100000, e_m1, nI_add, ni_mul, ni_sub, nI_clamp, e_ltT, e_ltF, e_leT, e_leF, e_eqT, e_eqF, e_mE, e_Em, e_mlt, e_mle, e_ltm, e_lem, e_gz, e_gt, e_bs, ite_self, e_el, e_er, tq_get, tq_set, tq_inc, tb_get_neg, tb_set_neg, and_true, true_and, and_false, false_and, not_false_eq_true, not_true_eq_false] <;> rfl
theorem m_obs4 (hN : 5000 ≤ N) (hz : w.1.1 = 804) (hc : c < 32) (hob : w.1.2 (138 + 13 * c) = nI ob) (hl : sX11_levelNow N w (nI c) = some lev) (h4 : w.1.2 (138 + 13 * c + 4) = nI 8) (hh : ¬ lev ≤ w.1.2 2) {f : Nat → Int32} (hq : qX11_observes_104 w (nI c) N (nI (138 + 13 * c + 5)) (obA w.1.2 c ob lev) = some (nI (138 + 13 * c + 12), f)) (hf4 : f (138 + 13 * c + 4) = nI 8) (hf1 : f (138 + 13 * c + 1) = w.1.2 (138 + 13 * c + 1)) (hf2 : f 2 = w.1.2 2) : sX11_observes N w (nI c) = sX11_hits N ((w.1.1, upd (upd (upd (upd f (138 + 13 * c + 4) (nI 7)) (138 + 13 * c + 5 + 7) lev) (138 + 13 * c + 4) (nI 8)) (138 + 13 * c + 1) (w.1.2 (138 + 13 * c + 1) + nI 1)), w.2) (nI c) lev := by
  have e7 : (8 : Nat) - 1 = 7 := rfl
  have e8 : (7 : Nat) + 1 = 8 := rfl
  simp (disch := omega) only [sX11_observes, hl, hz, hob, h4, e_ne, e_eq, bnd_if, hq, hf4, hf1, hf2, hh, e7, e8, ↓reduceIte, e_lt, e_bd, e_grd, e_clamp, e_l0, e_l1, e_l2, e_l3, e_l4, e_l5, e_l6, e_l7, e_l8, e_l9, e_l10, e_l12, e_l13, e_l20, e_l31, e_l32, e_l45, e_l48, e_l50, e_l57, e_l58, e_l59, e_l64, e_l70, e_l100, e_l106, e_l127, e_l138, e_l554, e_l799, e_l804, e_l1000, e_l2000, e_l2412, e_l100000, e_m1, nI_add, ni_mul, ni_sub, nI_clamp, e_ltT, e_ltF, e_leT, e_leF, e_eqT, e_eqF, e_mE, e_Em, e_mlt, e_mle, e_ltm, e_lem, e_gz, e_gt, e_bs, ite_self, e_el, e_er, tq_get, tq_set, tq_inc, tb_get_neg, tb_set_neg, and_true, true_and, and_false, false_and, not_false_eq_true, not_true_eq_false] <;> rfl
end MO
theorem m_obs {N c ob : Nat} {w : V11} {lev : Int32} (hN : 5000 ≤ N) (hz : w.1.1 = 804) (hc : c < 32) (hob : w.1.2 (138 + 13 * c) = nI ob) (hb : ob < 2 ^ 30) (h4 : w.1.2 (138 + 13 * c + 4) = nI (min ob 8)) (hl : sX11_levelNow N w (nI c) = some lev) :
    (lev ≤ w.1.2 2 → ∃ g', obsF w.1.2 g' c ob lev false ∧ sX11_observes N w (nI c) = ((sX11_openIn N ((w.1.1, g'), w.2) (nI c)).bind (fun o44 => (if o44 = m1 then some ((w.1.1, g'), w.2) else ((sX11_eventAt o44 (nI 4)).bind (fun o47 => grd (vp_in o47 w.1.1) (some ((w.1.1, upd g' o47.toNatClampNeg (nI 0)), w.2)))))))) ∧
    (¬ lev ≤ w.1.2 2 → ∃ g', obsF w.1.2 g' c ob lev true ∧ sX11_observes N w (nI c) = sX11_hits N ((w.1.1, g'), w.2) (nI c) lev) := by
  by_cases ho : ob < 8
  · have h4 : w.1.2 (138 + 13 * c + 4) = nI ob := by rw [h4, Nat.min_eq_left (by omega)]
    have em : min (ob + 1) 8 = ob + 1 := Nat.min_eq_left (by omega)
    refine ⟨fun hh => ⟨_, ?_, m_obs1 hN hz hc hob hl ho h4 hh⟩, fun hh => ⟨_, ?_, m_obs2 hN hz hc hob hl ho h4 hh⟩⟩
    · refine ⟨fun k hk => ?_, ?_, ?_, ?_, ?_, ?_, fun j hj => ?_⟩
      · simp (disch := omega) only [e_ne]
      · simp (disch := omega) only [e_ne, e_eq]
      · simp (disch := omega) only [e_ne, e_eq, Bool.false_eq_true, ↓reduceIte]
      · simp (disch := omega) only [e_ne, e_eq]
      · simp (disch := omega) only [e_ne, e_eq, e_a0if]
      · simp (disch := omega) only [e_ne, e_eq, em]
      · rw [em] at hj ⊢
        by_cases q : j = ob
        · subst q
          simp (disch := omega) only [e_ne, e_eq, e_ip, ↓reduceIte]
        · rw [if_neg (by omega), if_pos ho]
          simp (disch := omega) only [e_ne, e_eq, Nat.add_zero]
    · refine ⟨fun k hk => ?_, ?_, ?_, ?_, ?_, ?_, fun j hj => ?_⟩
      · simp (disch := omega) only [e_ne]
      · simp (disch := omega) only [e_ne, e_eq]
      · simp (disch := omega) only [e_ne, e_eq, ↓reduceIte]
      · simp (disch := omega) only [e_ne, e_eq]
      · simp (disch := omega) only [e_ne, e_eq, e_a0if]
      · simp (disch := omega) only [e_ne, e_eq, em]
      · rw [em] at hj ⊢
        by_cases q : j = ob
        · subst q
          simp (disch := omega) only [e_ne, e_eq, e_ip, ↓reduceIte]
        · rw [if_neg (by omega), if_pos ho]
          simp (disch := omega) only [e_ne, e_eq, Nat.add_zero]
  · have h4 : w.1.2 (138 + 13 * c + 4) = nI 8 := by rw [h4, Nat.min_eq_right (by omega)]
    have em : min (ob + 1) 8 = 8 := Nat.min_eq_right (by omega)
    obtain ⟨f, a1, a2⟩ := q_shift (w := w) hz hc N (138 + 13 * c + 5) (obA w.1.2 c ob lev) (by omega) (by omega)
    have f0 : ∀ k, ¬ (138 + 13 * c + 5 ≤ k ∧ k < 138 + 13 * c + 12) → f k = obA w.1.2 c ob lev k := fun k hk => by rw [a2, if_neg hk]
    have f1 : ∀ k, ¬ (138 + 13 * c ≤ k ∧ k < 138 + 13 * c + 13) → f k = w.1.2 k := fun k hk => by
      rw [f0 k (by omega)]
      simp (disch := omega) only [obA, e_ne]
    have g4 : f (138 + 13 * c + 4) = nI 8 := by
      rw [f0 _ (by omega)]
      simp (disch := omega) only [obA, e_ne]
      exact h4
    have g1 : f (138 + 13 * c + 1) = w.1.2 (138 + 13 * c + 1) := by
      rw [f0 _ (by omega)]
      simp (disch := omega) only [obA, e_ne]
    have g2 : f (138 + 13 * c) = nI (ob + 1) := by
      rw [f0 _ (by omega)]
      simp (disch := omega) only [obA, e_ne, e_eq]
    have g3 : f (138 + 13 * c + 2) = (if lev ≤ w.1.2 (138 + 13 * c + 2) then w.1.2 (138 + 13 * c + 2) else lev) := by
      rw [f0 _ (by omega)]
      simp (disch := omega) only [obA, e_ne, e_eq]
    have g5 : f (138 + 13 * c + 3) = (if lev ≤ w.1.2 (106 + c) then w.1.2 (138 + 13 * c + 3) else w.1.2 (138 + 13 * c + 3) + nI 1) := by
      rw [f0 _ (by omega)]
      simp (disch := omega) only [obA, e_ne, e_eq, e_a0if]
    have g6 : ∀ j, j < 7 → f (138 + 13 * c + 5 + j) = w.1.2 (138 + 13 * c + 5 + j + 1) := by
      intro j hj
      rw [a2, if_pos (by omega)]
      simp (disch := omega) only [obA, e_ne]
    refine ⟨fun hh => ⟨_, ?_, m_obs3 hN hz hc hob hl h4 hh a1 g4 (f1 2 (by omega))⟩, fun hh => ⟨_, ?_, m_obs4 hN hz hc hob hl h4 hh a1 g4 g1 (f1 2 (by omega))⟩⟩
    · refine ⟨fun k hk => ?_, ?_, ?_, ?_, ?_, ?_, fun j hj => ?_⟩
      · rw [← f1 k hk]
        simp (disch := omega) only [e_ne]
      · rw [← g2]
        simp (disch := omega) only [e_ne]
      · rw [← g1]
        simp (disch := omega) only [e_ne, Bool.false_eq_true, ↓reduceIte]
      · rw [← g3]
        simp (disch := omega) only [e_ne]
      · rw [← g5]
        simp (disch := omega) only [e_ne]
      · rw [em, e_eq rfl]
      · rw [em] at hj ⊢
        by_cases q : j = 7
        · subst q
          simp (disch := omega) only [e_ne, e_eq, e_ip, ↓reduceIte]
        · rw [if_neg (by omega), if_neg ho, ← g6 j (by omega)]
          simp (disch := omega) only [e_ne]
    · refine ⟨fun k hk => ?_, ?_, ?_, ?_, ?_, ?_, fun j hj => ?_⟩
      · rw [← f1 k hk]
        simp (disch := omega) only [e_ne]
      · rw [← g2]
        simp (disch := omega) only [e_ne]
      · rw [e_eq rfl, if_pos rfl]
      · rw [← g3]
        simp (disch := omega) only [e_ne]
      · rw [← g5]
        simp (disch := omega) only [e_ne]
      · rw [em, e_ne (by omega), e_eq rfl]
      · rw [em] at hj ⊢
        by_cases q : j = 7
        · subst q
          simp (disch := omega) only [e_ne, e_eq, e_ip, ↓reduceIte]
        · rw [if_neg (by omega), if_neg ho, ← g6 j (by omega)]
          simp (disch := omega) only [e_ne]
