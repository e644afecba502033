/-! the reference's saving -/
theorem q_sv10 {w : V11} (hn : w.2.1.1 = 3216) : ∀ (N i : Nat) (f : Nat → Int32), i ≤ 2412 → 2412 - i < N → ∃ f', qX11_save_10 w N (nI i) f = some (nI 2412, f') ∧ ∀ k, f' k = if i ≤ k ∧ k < 2412 then f (k + 804) else f k := by
  intro N
  induction N with
  | zero => intro i f _ h; omega
  | succ N ih =>
    intro i f hi hN
    unfold qX11_save_10 lt_
    simp only [fa_lit, nI_add, hn]
    rcases Nat.lt_or_ge i 2412 with hlt | hge
    · rw [if_neg (nI_ge hlt (by decide)), grd_pos (vp_in_nI (by omega) (by decide)), grd_pos (vp_in_nI (by omega) (by decide)), nI_clamp (by omega), nI_clamp (by omega)]
      obtain ⟨f', h1, h2⟩ := ih (i + 1) (upd f i (f (i + 804))) hlt (by omega)
      refine ⟨f', h1, fun k => ?_⟩
      rw [h2 k]
      unfold upd
      by_cases e1 : k = i
      · subst e1
        rw [if_neg (by omega), if_pos rfl, if_pos (by omega)]
      · by_cases e2 : i ≤ k ∧ k < 2412
        · rw [if_pos (by omega), if_neg (by omega), if_pos e2]
        · rw [if_neg (by omega), if_neg e1, if_neg e2]
    · have : i = 2412 := by omega
      subst this
      rw [if_pos (nI_le (Nat.le_refl _) (by decide))]
      exact ⟨f, rfl, fun k => by rw [if_neg (by omega)]⟩
theorem q_sv51 {w : V11} {j : (Nat → Int32) × Int32} {m : Nat} (hn : w.2.1.1 = 3216) (hg : w.1.1 = 804) (hj : j.2 = nI m) (hm : m < 4) : ∀ (N i : Nat) (f : Nat → Int32), i ≤ 804 → 804 - i < N → ∃ f', qX11_save_51 w j N (nI i) f = some (nI 804, f') ∧ ∀ k, f' k = if 804 * m + i ≤ k ∧ k < 804 * m + 804 then w.1.2 (k - 804 * m) else f k := by
  intro N
  induction N with
  | zero => intro i f _ h; omega
  | succ N ih =>
    intro i f hi hN
    unfold qX11_save_51 lt_
    rw [hj, hn, hg]
    simp only [fa_lit, ni_mul, nI_add]
    rcases Nat.lt_or_ge i 804 with hlt | hge
    · rw [if_neg (nI_ge hlt (by decide)), grd_pos (vp_in_nI (by omega) (by decide)), grd_pos (vp_in_nI (by omega) (by decide)), nI_clamp (by omega), nI_clamp (by omega)]
      obtain ⟨f', h1, h2⟩ := ih (i + 1) (upd f (804 * m + i) (w.1.2 i)) hlt (by omega)
      refine ⟨f', h1, fun k => ?_⟩
      rw [h2 k]
      unfold upd
      by_cases e1 : k = 804 * m + i
      · subst e1
        rw [if_neg (by omega), if_pos rfl, if_pos (by omega)]
        exact congrArg _ (by omega)
      · by_cases e2 : 804 * m + i ≤ k ∧ k < 804 * m + 804
        · rw [if_pos (by omega), if_pos e2]
        · rw [if_neg (by omega), if_neg e1, if_neg e2]
    · have : i = 804 := by omega
      subst this
      rw [if_pos (nI_le (Nat.le_refl _) (by decide))]
      exact ⟨f, rfl, fun k => by rw [if_neg (by omega)]⟩
/-- the reference's save: the rows as the class's -/
theorem m_save {w : V11} {m N : Nat} (hn : w.2.1.1 = 3216) (hg : w.1.1 = 804) (hm : m ≤ 4) (hw : w.2.2.1 = nI m) (hN : 5000 ≤ N) : ∃ sv' : Nat → Int32, sX11_save N w = some (w.1, (w.2.1.1, sv'), nI (svd m), w.2.2.2) ∧ (∀ j k, j + 1 < svd m → k < 804 → sv' (804 * j + k) = w.2.1.2 (804 * (if m = 4 then j + 1 else j) + k)) ∧ ∀ k, k < 804 → sv' (804 * (svd m - 1) + k) = w.1.2 k := by
  by_cases h4 : m = 4
  · subst h4
    obtain ⟨f1, a1, a2⟩ := q_sv10 hn N 0 w.2.1.2 (by omega) (by omega)
    obtain ⟨f2, b1, b2⟩ := q_sv51 (j := (f1, nI 3)) (m := 3) hn hg rfl (by decide) N 0 f1 (by omega) (by omega)
    refine ⟨f2, ?_, fun j k hj hk => ?_, fun k hk => ?_⟩
    · simp (disch := omega) only [sX11_save, hw, a1, b1, ↓reduceIte, e_lt, e_bd, e_grd, e_clamp, e_l0, e_l1, e_l2, e_l3, e_l4, e_l5, e_l6, e_l7, e_l8, e_l9, e_l10, e_l12, e_l13, e_l20, e_l31, e_l32, e_l45, e_l48, e_l50, e_l57, e_l58, e_l59, e_l64, e_l70, e_l100, e_l106, e_l127, e_l138, e_l554, e_l799, e_l804, e_l1000, e_l2000, e_l2412, e_l100000, e_m1, nI_add, ni_mul, ni_sub, nI_clamp, e_ltT, e_ltF, e_leT, e_leF, e_eqT, e_eqF, e_mE, e_Em, e_mlt, e_mle, e_ltm, e_lem, e_gz, e_gt, e_bs, ite_self, e_el, e_er, tq_get, tq_set, tq_inc, tb_get_neg, tb_set_neg, and_true, true_and, and_false, false_and, not_false_eq_true, not_true_eq_false] <;> rfl
    · have hj : j < 3 := by unfold svd at hj; rw [if_pos rfl] at hj; omega
      rw [b2, if_neg (by omega), a2, if_pos (by omega), if_pos rfl]
      exact congrArg _ (by omega)
    · have e : svd 4 - 1 = 3 := rfl
      rw [e, b2, if_pos (by omega)]
      exact congrArg _ (by omega)
  · obtain ⟨f2, b1, b2⟩ := q_sv51 (j := (w.2.1.2, nI m)) (m := m) hn hg rfl (by omega) N 0 w.2.1.2 (by omega) (by omega)
    have e0 : svd m = m + 1 := by unfold svd; rw [if_neg h4]
    refine ⟨f2, ?_, fun j k hj hk => ?_, fun k hk => ?_⟩
    · simp (disch := omega) only [sX11_save, hw, b1, e0, ↓reduceIte, e_lt, e_bd, e_grd, e_clamp, e_l0, e_l1, e_l2, e_l3, e_l4, e_l5, e_l6, e_l7, e_l8, e_l9, e_l10, e_l12, e_l13, e_l20, e_l31, e_l32, e_l45, e_l48, e_l50, e_l57, e_l58, e_l59, e_l64, e_l70, e_l100, e_l106, e_l127, e_l138, e_l554, e_l799, e_l804, e_l1000, e_l2000, e_l2412, e_l100000, e_m1, nI_add, ni_mul, ni_sub, nI_clamp, e_ltT, e_ltF, e_leT, e_leF, e_eqT, e_eqF, e_mE, e_Em, e_mlt, e_mle, e_ltm, e_lem, e_gz, e_gt, e_bs, ite_self, e_el, e_er, tq_get, tq_set, tq_inc, tb_get_neg, tb_set_neg, and_true, true_and, and_false, false_and, not_false_eq_true, not_true_eq_false] <;> rfl
    · rw [e0] at hj
      rw [b2, if_neg (by omega), if_neg h4]
    · rw [e0, b2, if_pos (by omega)]
      exact congrArg _ (by omega)
