/-! the levels of the channels -/
theorem e_a0 (x : Int32) : x + nI 0 = x := Int32.add_zero x
theorem e_neg {a b : Nat} (h : a < b) (hb : b < 2 ^ 31) : (nI a - nI b < nI 0) = True := by
  refine eq_true ?_
  rw [fa_lt, fb_subI, nI_toInt (by omega), nI_toInt hb, nI_toInt (by decide)]
  · omega
  · rw [nI_toInt (by omega), nI_toInt hb]; omega
  · rw [nI_toInt (by omega), nI_toInt hb]; omega
theorem lv_fin {tf f f0 : Nat → Int32} {w : V11} {n i T : Nat} (hf : ∀ c, c < 32 → ∃ l, l ≤ 100 ∧ f c = nI l) {c0 lv : Nat} (hlv : lv ≤ 100) (q1 : ∀ N, qX7_raiseLevels_2 ((nI 10, nI 6, 10 * 6, tf), nI n) (nI T) (32, f0) (N + 1) (nI i) f = qX7_raiseLevels_2 ((nI 10, nI 6, 10 * 6, tf), nI n) (nI T) (32, f0) N (nI (i + 1)) (if nI lv ≤ f c0 then f else upd f c0 (nI lv))) (q2 : ∀ c, c < 32 → ∀ (M : Nat) (x : Int32), qX11_levelNow_17 w (nI c) (M + 1) x (nI i) = qX11_levelNow_17 w (nI c) M (if c0 = c then (if nI lv ≤ x then x else nI lv) else x) (nI (i + 1))) : ∃ f1 : Nat → Int32, (∀ N, qX7_raiseLevels_2 ((nI 10, nI 6, 10 * 6, tf), nI n) (nI T) (32, f0) (N + 1) (nI i) f = qX7_raiseLevels_2 ((nI 10, nI 6, 10 * 6, tf), nI n) (nI T) (32, f0) N (nI (i + 1)) f1) ∧ (∀ c, c < 32 → ∀ M, qX11_levelNow_17 w (nI c) (M + 1) (f c) (nI i) = qX11_levelNow_17 w (nI c) M (f1 c) (nI (i + 1))) ∧ ∀ c, c < 32 → ∃ l, l ≤ 100 ∧ f1 c = nI l := by
  have hv : ∀ c, (if nI lv ≤ f c0 then f else upd f c0 (nI lv)) c = if c0 = c then (if nI lv ≤ f c then f c else nI lv) else f c := by
    intro c
    by_cases e : c0 = c
    · subst e
      rw [if_pos rfl]
      split
      · rfl
      · exact e_eq rfl
    · rw [if_neg e]
      split
      · rfl
      · exact e_ne (fun q => e q.symm)
  refine ⟨_, q1, fun c hc M => ?_, fun c hc => ?_⟩
  · rw [q2 c hc, hv]
  · rw [hv]
    split
    · split
      · exact hf c hc
      · exact ⟨lv, hlv, rfl⟩
    · exact hf c hc
theorem lc_a {f f0 tf : Nat → Int32} {n i T : Nat} (hn : n ≤ 10) (hT : T < 2097152) (hi : i < n) {c0 lv : Nat} (hc0 : c0 < 32) (hp : (sX7_pulsedChannel ((nI 10, nI 6, 10 * 6, tf), nI n) (nI i) (nI T) = some (nI c0) ∧ tf (i * 6 + 0) = nI 0 ∧ tf (i * 6 + 2) = nI lv) ∨ (sX7_hoppingChannel ((nI 10, nI 6, 10 * 6, tf), nI n) (nI i) (nI T) = some (nI c0) ∧ tf (i * 6 + 0) = nI 1 ∧ tf (i * 6 + 4) = nI lv)) : ∀ N, qX7_raiseLevels_2 ((nI 10, nI 6, 10 * 6, tf), nI n) (nI T) (32, f0) (N + 1) (nI i) f = qX7_raiseLevels_2 ((nI 10, nI 6, 10 * 6, tf), nI n) (nI T) (32, f0) N (nI (i + 1)) (if nI lv ≤ f c0 then f else upd f c0 (nI lv)) := by
  intro N
  rw [qX7_raiseLevels_2]
  rcases hp with ⟨hp, k0, k2⟩ | ⟨hp, k0, k2⟩
  · by_cases hx : nI lv ≤ f c0
    · simp (disch := omega) only [k0, k2, hp, c_within, hx, ↓reduceIte, e_lt, e_bd, e_grd, e_clamp, e_l0, e_l1, e_l2, e_l3, e_l4, e_l5, e_l6, e_l7, e_l8, e_l9, e_l10, e_l12, e_l13, e_l20, e_l31, e_l32, e_l45, e_l48, e_l50, e_l57, e_l58, e_l59, e_l64, e_l70, e_l100, e_l106, e_l127, e_l138, e_l554, e_l799, e_l804, e_l1000, e_l2000, e_l2412, e_l100000, e_m1, nI_add, ni_mul, ni_sub, nI_clamp, e_ltT, e_ltF, e_leT, e_leF, e_eqT, e_eqF, e_mE, e_Em, e_mlt, e_mle, e_ltm, e_lem, e_gz, e_gt, e_bs, ite_self, e_el, e_er, tq_get, tq_set, tq_inc, tb_get_neg, tb_set_neg, and_true, true_and, and_false, false_and, not_false_eq_true, not_true_eq_false] <;> rfl
    · simp (disch := omega) only [k0, k2, hp, c_within, hx, ↓reduceIte, e_lt, e_bd, e_grd, e_clamp, e_l0, e_l1, e_l2, e_l3, e_l4, e_l5, e_l6, e_l7, e_l8, e_l9, e_l10, e_l12, e_l13, e_l20, e_l31, e_l32, e_l45, e_l48, e_l50, e_l57, e_l58, e_l59, e_l64, e_l70, e_l100, e_l106, e_l127, e_l138, e_l554, e_l799, e_l804, e_l1000, e_l2000, e_l2412, e_l100000, e_m1, nI_add, ni_mul, ni_sub, nI_clamp, e_ltT, e_ltF, e_leT, e_leF, e_eqT, e_eqF, e_mE, e_Em, e_mlt, e_mle, e_ltm, e_lem, e_gz, e_gt, e_bs, ite_self, e_el, e_er, tq_get, tq_set, tq_inc, tb_get_neg, tb_set_neg, and_true, true_and, and_false, false_and, not_false_eq_true, not_true_eq_false] <;> rfl
  · by_cases hx : nI lv ≤ f c0
    · simp (disch := omega) only [k0, k2, hp, c_within, hx, ↓reduceIte, e_lt, e_bd, e_grd, e_clamp, e_l0, e_l1, e_l2, e_l3, e_l4, e_l5, e_l6, e_l7, e_l8, e_l9, e_l10, e_l12, e_l13, e_l20, e_l31, e_l32, e_l45, e_l48, e_l50, e_l57, e_l58, e_l59, e_l64, e_l70, e_l100, e_l106, e_l127, e_l138, e_l554, e_l799, e_l804, e_l1000, e_l2000, e_l2412, e_l100000, e_m1, nI_add, ni_mul, ni_sub, nI_clamp, e_ltT, e_ltF, e_leT, e_leF, e_eqT, e_eqF, e_mE, e_Em, e_mlt, e_mle, e_ltm, e_lem, e_gz, e_gt, e_bs, ite_self, e_el, e_er, tq_get, tq_set, tq_inc, tb_get_neg, tb_set_neg, and_true, true_and, and_false, false_and, not_false_eq_true, not_true_eq_false] <;> rfl
    · simp (disch := omega) only [k0, k2, hp, c_within, hx, ↓reduceIte, e_lt, e_bd, e_grd, e_clamp, e_l0, e_l1, e_l2, e_l3, e_l4, e_l5, e_l6, e_l7, e_l8, e_l9, e_l10, e_l12, e_l13, e_l20, e_l31, e_l32, e_l45, e_l48, e_l50, e_l57, e_l58, e_l59, e_l64, e_l70, e_l100, e_l106, e_l127, e_l138, e_l554, e_l799, e_l804, e_l1000, e_l2000, e_l2412, e_l100000, e_m1, nI_add, ni_mul, ni_sub, nI_clamp, e_ltT, e_ltF, e_leT, e_leF, e_eqT, e_eqF, e_mE, e_Em, e_mlt, e_mle, e_ltm, e_lem, e_gz, e_gt, e_bs, ite_self, e_el, e_er, tq_get, tq_set, tq_inc, tb_get_neg, tb_set_neg, and_true, true_and, and_false, false_and, not_false_eq_true, not_true_eq_false] <;> rfl
theorem lc_b {f f0 tf : Nat → Int32} {n i T : Nat} (hn : n ≤ 10) (hT : T < 2097152) (hi : i < n) {lv : Nat} (hp : (sX7_pulsedChannel ((nI 10, nI 6, 10 * 6, tf), nI n) (nI i) (nI T) = some m1 ∧ tf (i * 6 + 0) = nI 0 ∧ tf (i * 6 + 2) = nI lv) ∨ (sX7_hoppingChannel ((nI 10, nI 6, 10 * 6, tf), nI n) (nI i) (nI T) = some m1 ∧ tf (i * 6 + 0) = nI 1 ∧ tf (i * 6 + 4) = nI lv)) : ∀ N, qX7_raiseLevels_2 ((nI 10, nI 6, 10 * 6, tf), nI n) (nI T) (32, f0) (N + 1) (nI i) f = qX7_raiseLevels_2 ((nI 10, nI 6, 10 * 6, tf), nI n) (nI T) (32, f0) N (nI (i + 1)) f := by
  intro N
  rw [qX7_raiseLevels_2]
  rcases hp with ⟨hp, k0, k2⟩ | ⟨hp, k0, k2⟩
  · simp (disch := omega) only [k0, k2, hp, c_within, ↓reduceIte, e_lt, e_bd, e_grd, e_clamp, e_l0, e_l1, e_l2, e_l3, e_l4, e_l5, e_l6, e_l7, e_l8, e_l9, e_l10, e_l12, e_l13, e_l20, e_l31, e_l32, e_l45, e_l48, e_l50, e_l57, e_l58, e_l59, e_l64, e_l70, e_l100, e_l106, e_l127, e_l138, e_l554, e_l799, e_l804, e_l1000, e_l2000, e_l2412, e_l100000, e_m1, nI_add, ni_mul, ni_sub, nI_clamp, e_ltT, e_ltF, e_leT, e_leF, e_eqT, e_eqF, e_mE, e_Em, e_mlt, e_mle, e_ltm, e_lem, e_gz, e_gt, e_bs, ite_self, e_el, e_er, tq_get, tq_set, tq_inc, tb_get_neg, tb_set_neg, and_true, true_and, and_false, false_and, not_false_eq_true, not_true_eq_false] <;> rfl
  · simp (disch := omega) only [k0, k2, hp, c_within, ↓reduceIte, e_lt, e_bd, e_grd, e_clamp, e_l0, e_l1, e_l2, e_l3, e_l4, e_l5, e_l6, e_l7, e_l8, e_l9, e_l10, e_l12, e_l13, e_l20, e_l31, e_l32, e_l45, e_l48, e_l50, e_l57, e_l58, e_l59, e_l64, e_l70, e_l100, e_l106, e_l127, e_l138, e_l554, e_l799, e_l804, e_l1000, e_l2000, e_l2412, e_l100000, e_m1, nI_add, ni_mul, ni_sub, nI_clamp, e_ltT, e_ltF, e_leT, e_leF, e_eqT, e_eqF, e_mE, e_Em, e_mlt, e_mle, e_ltm, e_lem, e_gz, e_gt, e_bs, ite_self, e_el, e_er, tq_get, tq_set, tq_inc, tb_get_neg, tb_set_neg, and_true, true_and, and_false, false_and, not_false_eq_true, not_true_eq_false] <;> rfl
theorem lc_p1 {tf : Nat → Int32} {n i T : Nat} (hn : n ≤ 10) (hT : T < 2097152) (hi : i < n) {c0 lv st on per : Nat} (hc0 : c0 < 32) (hlv : lv ≤ 100) (hst : st ≤ 100000) (h1 : 1 ≤ on) (h2 : on ≤ per) (h3 : per ≤ 1000) (k0 : tf (i * 6 + 0) = nI 0) (k1 : tf (i * 6 + 1) = nI c0) (k2 : tf (i * 6 + 2) = nI lv) (k3 : tf (i * 6 + 3) = nI st) (k4 : tf (i * 6 + 4) = nI on) (k5 : tf (i * 6 + 5) = nI per) (hT2 : st ≤ T) (ha : (T - st) % per < on) : sX7_pulsedChannel ((nI 10, nI 6, 10 * 6, tf), nI n) (nI i) (nI T) = some (nI c0) := by
  simp (disch := omega) only [k0, k1, k2, k3, k4, k5, sX7_pulsedChannel, pk_rem, ↓reduceIte, e_lt, e_bd, e_grd, e_clamp, e_l0, e_l1, e_l2, e_l3, e_l4, e_l5, e_l6, e_l7, e_l8, e_l9, e_l10, e_l12, e_l13, e_l20, e_l31, e_l32, e_l45, e_l48, e_l50, e_l57, e_l58, e_l59, e_l64, e_l70, e_l100, e_l106, e_l127, e_l138, e_l554, e_l799, e_l804, e_l1000, e_l2000, e_l2412, e_l100000, e_m1, nI_add, ni_mul, ni_sub, nI_clamp, e_ltT, e_ltF, e_leT, e_leF, e_eqT, e_eqF, e_mE, e_Em, e_mlt, e_mle, e_ltm, e_lem, e_gz, e_gt, e_bs, ite_self, e_el, e_er, tq_get, tq_set, tq_inc, tb_get_neg, tb_set_neg, and_true, true_and, and_false, false_and, not_false_eq_true, not_true_eq_false] <;> rfl
theorem lc_p2 {tf : Nat → Int32} {n i T : Nat} (hn : n ≤ 10) (hT : T < 2097152) (hi : i < n) {c0 lv st on per : Nat} (hc0 : c0 < 32) (hlv : lv ≤ 100) (hst : st ≤ 100000) (h1 : 1 ≤ on) (h2 : on ≤ per) (h3 : per ≤ 1000) (k0 : tf (i * 6 + 0) = nI 0) (k1 : tf (i * 6 + 1) = nI c0) (k2 : tf (i * 6 + 2) = nI lv) (k3 : tf (i * 6 + 3) = nI st) (k4 : tf (i * 6 + 4) = nI on) (k5 : tf (i * 6 + 5) = nI per) (hT2 : st ≤ T) (hm : (T - st) % per < 2097152) (ha : ¬ (T - st) % per < on) : sX7_pulsedChannel ((nI 10, nI 6, 10 * 6, tf), nI n) (nI i) (nI T) = some m1 := by
  simp (disch := omega) only [k0, k1, k2, k3, k4, k5, sX7_pulsedChannel, pk_rem, ↓reduceIte, e_lt, e_bd, e_grd, e_clamp, e_l0, e_l1, e_l2, e_l3, e_l4, e_l5, e_l6, e_l7, e_l8, e_l9, e_l10, e_l12, e_l13, e_l20, e_l31, e_l32, e_l45, e_l48, e_l50, e_l57, e_l58, e_l59, e_l64, e_l70, e_l100, e_l106, e_l127, e_l138, e_l554, e_l799, e_l804, e_l1000, e_l2000, e_l2412, e_l100000, e_m1, nI_add, ni_mul, ni_sub, nI_clamp, e_ltT, e_ltF, e_leT, e_leF, e_eqT, e_eqF, e_mE, e_Em, e_mlt, e_mle, e_ltm, e_lem, e_gz, e_gt, e_bs, ite_self, e_el, e_er, tq_get, tq_set, tq_inc, tb_get_neg, tb_set_neg, and_true, true_and, and_false, false_and, not_false_eq_true, not_true_eq_false] <;> rfl
theorem lc_p3 {tf : Nat → Int32} {n i T : Nat} (hn : n ≤ 10) (hT : T < 2097152) (hi : i < n) {c0 lv st on per : Nat} (hc0 : c0 < 32) (hlv : lv ≤ 100) (hst : st ≤ 100000) (h1 : 1 ≤ on) (h2 : on ≤ per) (h3 : per ≤ 1000) (k0 : tf (i * 6 + 0) = nI 0) (k1 : tf (i * 6 + 1) = nI c0) (k2 : tf (i * 6 + 2) = nI lv) (k3 : tf (i * 6 + 3) = nI st) (k4 : tf (i * 6 + 4) = nI on) (k5 : tf (i * 6 + 5) = nI per) (hT2 : ¬ st ≤ T) : sX7_pulsedChannel ((nI 10, nI 6, 10 * 6, tf), nI n) (nI i) (nI T) = some m1 := by
  have hng := e_neg (a := T) (b := st) (by omega) (by omega)
  simp (disch := omega) only [k0, k1, k2, k3, k4, k5, sX7_pulsedChannel, hng, ↓reduceIte, e_lt, e_bd, e_grd, e_clamp, e_l0, e_l1, e_l2, e_l3, e_l4, e_l5, e_l6, e_l7, e_l8, e_l9, e_l10, e_l12, e_l13, e_l20, e_l31, e_l32, e_l45, e_l48, e_l50, e_l57, e_l58, e_l59, e_l64, e_l70, e_l100, e_l106, e_l127, e_l138, e_l554, e_l799, e_l804, e_l1000, e_l2000, e_l2412, e_l100000, e_m1, nI_add, ni_mul, ni_sub, nI_clamp, e_ltT, e_ltF, e_leT, e_leF, e_eqT, e_eqF, e_mE, e_Em, e_mlt, e_mle, e_ltm, e_lem, e_gz, e_gt, e_bs, ite_self, e_el, e_er, tq_get, tq_set, tq_inc, tb_get_neg, tb_set_neg, and_true, true_and, and_false, false_and, not_false_eq_true, not_true_eq_false] <;> rfl
theorem lc_h1 {tf : Nat → Int32} {n i T : Nat} (hn : n ≤ 10) (hT : T < 2097152) (hi : i < n) {c0 lv st sp hd : Nat} (hc0 : c0 < 32) (hlv : lv ≤ 100) (hst : st ≤ 100000) (hs2 : sp < 32) (hd1 : 1 ≤ hd) (hd2 : hd ≤ 1000) (k0 : tf (i * 6 + 0) = nI 1) (k1 : tf (i * 6 + 1) = nI c0) (k2 : tf (i * 6 + 2) = nI sp) (k3 : tf (i * 6 + 3) = nI hd) (k4 : tf (i * 6 + 4) = nI lv) (k5 : tf (i * 6 + 5) = nI st) (hT2 : st ≤ T) {q y : Nat} (hdiv : nI (T - st) / nI hd = nI q) (hmul : nI sp * nI q = nI y) (hy : y ≤ 65011712) : sX7_hoppingChannel ((nI 10, nI 6, 10 * 6, tf), nI n) (nI i) (nI T) = some (nI ((c0 + y) % 32)) := by
  simp (disch := omega) only [k0, k1, k2, k3, k4, k5, sX7_hoppingChannel, hdiv, hmul, pk_rem, ↓reduceIte, e_lt, e_bd, e_grd, e_clamp, e_l0, e_l1, e_l2, e_l3, e_l4, e_l5, e_l6, e_l7, e_l8, e_l9, e_l10, e_l12, e_l13, e_l20, e_l31, e_l32, e_l45, e_l48, e_l50, e_l57, e_l58, e_l59, e_l64, e_l70, e_l100, e_l106, e_l127, e_l138, e_l554, e_l799, e_l804, e_l1000, e_l2000, e_l2412, e_l100000, e_m1, nI_add, ni_mul, ni_sub, nI_clamp, e_ltT, e_ltF, e_leT, e_leF, e_eqT, e_eqF, e_mE, e_Em, e_mlt, e_mle, e_ltm, e_lem, e_gz, e_gt, e_bs, ite_self, e_el, e_er, tq_get, tq_set, tq_inc, tb_get_neg, tb_set_neg, and_true, true_and, and_false, false_and, not_false_eq_true, not_true_eq_false] <;> rfl
theorem lc_h3 {tf : Nat → Int32} {n i T : Nat} (hn : n ≤ 10) (hT : T < 2097152) (hi : i < n) {c0 lv st sp hd : Nat} (hc0 : c0 < 32) (hlv : lv ≤ 100) (hst : st ≤ 100000) (hs2 : sp < 32) (hd1 : 1 ≤ hd) (hd2 : hd ≤ 1000) (k0 : tf (i * 6 + 0) = nI 1) (k1 : tf (i * 6 + 1) = nI c0) (k2 : tf (i * 6 + 2) = nI sp) (k3 : tf (i * 6 + 3) = nI hd) (k4 : tf (i * 6 + 4) = nI lv) (k5 : tf (i * 6 + 5) = nI st) (hT2 : ¬ st ≤ T) : sX7_hoppingChannel ((nI 10, nI 6, 10 * 6, tf), nI n) (nI i) (nI T) = some m1 := by
  have hng := e_neg (a := T) (b := st) (by omega) (by omega)
  simp (disch := omega) only [k0, k1, k2, k3, k4, k5, sX7_hoppingChannel, hng, ↓reduceIte, e_lt, e_bd, e_grd, e_clamp, e_l0, e_l1, e_l2, e_l3, e_l4, e_l5, e_l6, e_l7, e_l8, e_l9, e_l10, e_l12, e_l13, e_l20, e_l31, e_l32, e_l45, e_l48, e_l50, e_l57, e_l58, e_l59, e_l64, e_l70, e_l100, e_l106, e_l127, e_l138, e_l554, e_l799, e_l804, e_l1000, e_l2000, e_l2412, e_l100000, e_m1, nI_add, ni_mul, ni_sub, nI_clamp, e_ltT, e_ltF, e_leT, e_leF, e_eqT, e_eqF, e_mE, e_Em, e_mlt, e_mle, e_ltm, e_lem, e_gz, e_gt, e_bs, ite_self, e_el, e_er, tq_get, tq_set, tq_inc, tb_get_neg, tb_set_neg, and_true, true_and, and_false, false_and, not_false_eq_true, not_true_eq_false] <;> rfl
theorem lr_p1 {w : V11} {n i T : Nat} (hz : w.1.1 = 804) (hn : n ≤ 10) (g5 : w.1.2 5 = nI n) (g0 : w.1.2 0 = nI T) (hT : T < 2097152) (hi : i < n) {c0 lv st on per : Nat} (hc0 : c0 < 32) (hlv : lv ≤ 100) (hst : st ≤ 100000) (h1 : 1 ≤ on) (h2 : on ≤ per) (h3 : per ≤ 1000) (G0 : w.1.2 (10 + 6 * i) = nI 0) (G1 : w.1.2 (10 + 6 * i + 1) = nI c0) (G2 : w.1.2 (10 + 6 * i + 2) = nI lv) (G3 : w.1.2 (10 + 6 * i + 3) = nI st) (G4 : w.1.2 (10 + 6 * i + 4) = nI on) (G5 : w.1.2 (10 + 6 * i + 5) = nI per) (hT2 : st ≤ T) (ha : (T - st) % per < on) : ∀ c, c < 32 → ∀ (M : Nat) (x : Int32), qX11_levelNow_17 w (nI c) (M + 1) x (nI i) = qX11_levelNow_17 w (nI c) M (if c0 = c then (if nI lv ≤ x then x else nI lv) else x) (nI (i + 1)) := by
  intro c hc M x
  rw [qX11_levelNow_17]
  by_cases hc1 : c0 = c
  · subst hc1
    by_cases hx : nI lv ≤ x
    · simp (disch := omega) only [hz, g5, g0, G0, G1, G2, G3, G4, G5, pk_rem, hx, ↓reduceIte, e_lt, e_bd, e_grd, e_clamp, e_l0, e_l1, e_l2, e_l3, e_l4, e_l5, e_l6, e_l7, e_l8, e_l9, e_l10, e_l12, e_l13, e_l20, e_l31, e_l32, e_l45, e_l48, e_l50, e_l57, e_l58, e_l59, e_l64, e_l70, e_l100, e_l106, e_l127, e_l138, e_l554, e_l799, e_l804, e_l1000, e_l2000, e_l2412, e_l100000, e_m1, nI_add, ni_mul, ni_sub, nI_clamp, e_ltT, e_ltF, e_leT, e_leF, e_eqT, e_eqF, e_mE, e_Em, e_mlt, e_mle, e_ltm, e_lem, e_gz, e_gt, e_bs, ite_self, e_el, e_er, tq_get, tq_set, tq_inc, tb_get_neg, tb_set_neg, and_true, true_and, and_false, false_and, not_false_eq_true, not_true_eq_false] <;> rfl
    · simp (disch := omega) only [hz, g5, g0, G0, G1, G2, G3, G4, G5, pk_rem, hx, ↓reduceIte, e_lt, e_bd, e_grd, e_clamp, e_l0, e_l1, e_l2, e_l3, e_l4, e_l5, e_l6, e_l7, e_l8, e_l9, e_l10, e_l12, e_l13, e_l20, e_l31, e_l32, e_l45, e_l48, e_l50, e_l57, e_l58, e_l59, e_l64, e_l70, e_l100, e_l106, e_l127, e_l138, e_l554, e_l799, e_l804, e_l1000, e_l2000, e_l2412, e_l100000, e_m1, nI_add, ni_mul, ni_sub, nI_clamp, e_ltT, e_ltF, e_leT, e_leF, e_eqT, e_eqF, e_mE, e_Em, e_mlt, e_mle, e_ltm, e_lem, e_gz, e_gt, e_bs, ite_self, e_el, e_er, tq_get, tq_set, tq_inc, tb_get_neg, tb_set_neg, and_true, true_and, and_false, false_and, not_false_eq_true, not_true_eq_false] <;> rfl
  · simp (disch := omega) only [hz, g5, g0, G0, G1, G2, G3, G4, G5, pk_rem, hc1, ↓reduceIte, e_lt, e_bd, e_grd, e_clamp, e_l0, e_l1, e_l2, e_l3, e_l4, e_l5, e_l6, e_l7, e_l8, e_l9, e_l10, e_l12, e_l13, e_l20, e_l31, e_l32, e_l45, e_l48, e_l50, e_l57, e_l58, e_l59, e_l64, e_l70, e_l100, e_l106, e_l127, e_l138, e_l554, e_l799, e_l804, e_l1000, e_l2000, e_l2412, e_l100000, e_m1, nI_add, ni_mul, ni_sub, nI_clamp, e_ltT, e_ltF, e_leT, e_leF, e_eqT, e_eqF, e_mE, e_Em, e_mlt, e_mle, e_ltm, e_lem, e_gz, e_gt, e_bs, ite_self, e_el, e_er, tq_get, tq_set, tq_inc, tb_get_neg, tb_set_neg, and_true, true_and, and_false, false_and, not_false_eq_true, not_true_eq_false] <;> rfl
theorem lr_p2 {w : V11} {n i T : Nat} (hz : w.1.1 = 804) (hn : n ≤ 10) (g5 : w.1.2 5 = nI n) (g0 : w.1.2 0 = nI T) (hT : T < 2097152) (hi : i < n) {c0 lv st on per : Nat} (hc0 : c0 < 32) (hlv : lv ≤ 100) (hst : st ≤ 100000) (h1 : 1 ≤ on) (h2 : on ≤ per) (h3 : per ≤ 1000) (G0 : w.1.2 (10 + 6 * i) = nI 0) (G1 : w.1.2 (10 + 6 * i + 1) = nI c0) (G2 : w.1.2 (10 + 6 * i + 2) = nI lv) (G3 : w.1.2 (10 + 6 * i + 3) = nI st) (G4 : w.1.2 (10 + 6 * i + 4) = nI on) (G5 : w.1.2 (10 + 6 * i + 5) = nI per) (hT2 : st ≤ T) (hm : (T - st) % per < 2097152) (ha : ¬ (T - st) % per < on) : ∀ c, c < 32 → ∀ (M : Nat) (x : Int32), qX11_levelNow_17 w (nI c) (M + 1) x (nI i) = qX11_levelNow_17 w (nI c) M x (nI (i + 1)) := by
  intro c hc M x
  rw [qX11_levelNow_17]
  by_cases hc1 : c0 = c
  · simp (disch := omega) only [hz, g5, g0, G0, G1, G2, G3, G4, G5, pk_rem, ↓reduceIte, e_lt, e_bd, e_grd, e_clamp, e_l0, e_l1, e_l2, e_l3, e_l4, e_l5, e_l6, e_l7, e_l8, e_l9, e_l10, e_l12, e_l13, e_l20, e_l31, e_l32, e_l45, e_l48, e_l50, e_l57, e_l58, e_l59, e_l64, e_l70, e_l100, e_l106, e_l127, e_l138, e_l554, e_l799, e_l804, e_l1000, e_l2000, e_l2412, e_l100000, e_m1, nI_add, ni_mul, ni_sub, nI_clamp, e_ltT, e_ltF, e_leT, e_leF, e_eqT, e_eqF, e_mE, e_Em, e_mlt, e_mle, e_ltm, e_lem, e_gz, e_gt, e_bs, ite_self, e_el, e_er, tq_get, tq_set, tq_inc, tb_get_neg, tb_set_neg, and_true, true_and, and_false, false_and, not_false_eq_true, not_true_eq_false] <;> rfl
  · simp (disch := omega) only [hz, g5, g0, G0, G1, G2, G3, G4, G5, pk_rem, hc1, ↓reduceIte, e_lt, e_bd, e_grd, e_clamp, e_l0, e_l1, e_l2, e_l3, e_l4, e_l5, e_l6, e_l7, e_l8, e_l9, e_l10, e_l12, e_l13, e_l20, e_l31, e_l32, e_l45, e_l48, e_l50, e_l57, e_l58, e_l59, e_l64, e_l70, e_l100, e_l106, e_l127, e_l138, e_l554, e_l799, e_l804, e_l1000, e_l2000, e_l2412, e_l100000, e_m1, nI_add, ni_mul, ni_sub, nI_clamp, e_ltT, e_ltF, e_leT, e_leF, e_eqT, e_eqF, e_mE, e_Em, e_mlt, e_mle, e_ltm, e_lem, e_gz, e_gt, e_bs, ite_self, e_el, e_er, tq_get, tq_set, tq_inc, tb_get_neg, tb_set_neg, and_true, true_and, and_false, false_and, not_false_eq_true, not_true_eq_false] <;> rfl
theorem lr_p3 {w : V11} {n i T : Nat} (hz : w.1.1 = 804) (hn : n ≤ 10) (g5 : w.1.2 5 = nI n) (g0 : w.1.2 0 = nI T) (hT : T < 2097152) (hi : i < n) {c0 lv st on per : Nat} (hc0 : c0 < 32) (hlv : lv ≤ 100) (hst : st ≤ 100000) (h1 : 1 ≤ on) (h2 : on ≤ per) (h3 : per ≤ 1000) (G0 : w.1.2 (10 + 6 * i) = nI 0) (G1 : w.1.2 (10 + 6 * i + 1) = nI c0) (G2 : w.1.2 (10 + 6 * i + 2) = nI lv) (G3 : w.1.2 (10 + 6 * i + 3) = nI st) (G4 : w.1.2 (10 + 6 * i + 4) = nI on) (G5 : w.1.2 (10 + 6 * i + 5) = nI per) (hT2 : ¬ st ≤ T) : ∀ c, c < 32 → ∀ (M : Nat) (x : Int32), qX11_levelNow_17 w (nI c) (M + 1) x (nI i) = qX11_levelNow_17 w (nI c) M x (nI (i + 1)) := by
  intro c hc M x
  have hng := e_neg (a := T) (b := st) (by omega) (by omega)
  rw [qX11_levelNow_17]
  simp (disch := omega) only [hz, g5, g0, G0, G1, G2, G3, G4, G5, hng, ↓reduceIte, e_lt, e_bd, e_grd, e_clamp, e_l0, e_l1, e_l2, e_l3, e_l4, e_l5, e_l6, e_l7, e_l8, e_l9, e_l10, e_l12, e_l13, e_l20, e_l31, e_l32, e_l45, e_l48, e_l50, e_l57, e_l58, e_l59, e_l64, e_l70, e_l100, e_l106, e_l127, e_l138, e_l554, e_l799, e_l804, e_l1000, e_l2000, e_l2412, e_l100000, e_m1, nI_add, ni_mul, ni_sub, nI_clamp, e_ltT, e_ltF, e_leT, e_leF, e_eqT, e_eqF, e_mE, e_Em, e_mlt, e_mle, e_ltm, e_lem, e_gz, e_gt, e_bs, ite_self, e_el, e_er, tq_get, tq_set, tq_inc, tb_get_neg, tb_set_neg, and_true, true_and, and_false, false_and, not_false_eq_true, not_true_eq_false] <;> rfl
theorem lr_h1 {w : V11} {n i T : Nat} (hz : w.1.1 = 804) (hn : n ≤ 10) (g5 : w.1.2 5 = nI n) (g0 : w.1.2 0 = nI T) (hT : T < 2097152) (hi : i < n) {c0 lv st sp hd : Nat} (hc0 : c0 < 32) (hlv : lv ≤ 100) (hst : st ≤ 100000) (hs2 : sp < 32) (hd1 : 1 ≤ hd) (hd2 : hd ≤ 1000) (G0 : w.1.2 (10 + 6 * i) = nI 1) (G1 : w.1.2 (10 + 6 * i + 1) = nI c0) (G2 : w.1.2 (10 + 6 * i + 2) = nI sp) (G3 : w.1.2 (10 + 6 * i + 3) = nI hd) (G4 : w.1.2 (10 + 6 * i + 4) = nI lv) (G5 : w.1.2 (10 + 6 * i + 5) = nI st) (hT2 : st ≤ T) {q y : Nat} (hdiv : nI (T - st) / nI hd = nI q) (hmul : nI sp * nI q = nI y) (hy : y ≤ 65011712) : ∀ c, c < 32 → ∀ (M : Nat) (x : Int32), qX11_levelNow_17 w (nI c) (M + 1) x (nI i) = qX11_levelNow_17 w (nI c) M (if (c0 + y) % 32 = c then (if nI lv ≤ x then x else nI lv) else x) (nI (i + 1)) := by
  intro c hc M x
  rw [qX11_levelNow_17]
  by_cases hc1 : (c0 + y) % 32 = c
  · by_cases hx : nI lv ≤ x
    · simp (disch := omega) only [hz, g5, g0, G0, G1, G2, G3, G4, G5, hdiv, hmul, pk_rem, hx, hc1, ↓reduceIte, e_lt, e_bd, e_grd, e_clamp, e_l0, e_l1, e_l2, e_l3, e_l4, e_l5, e_l6, e_l7, e_l8, e_l9, e_l10, e_l12, e_l13, e_l20, e_l31, e_l32, e_l45, e_l48, e_l50, e_l57, e_l58, e_l59, e_l64, e_l70, e_l100, e_l106, e_l127, e_l138, e_l554, e_l799, e_l804, e_l1000, e_l2000, e_l2412, e_l100000, e_m1, nI_add, ni_mul, ni_sub, nI_clamp, e_ltT, e_ltF, e_leT, e_leF, e_eqT, e_eqF, e_mE, e_Em, e_mlt, e_mle, e_ltm, e_lem, e_gz, e_gt, e_bs, ite_self, e_el, e_er, tq_get, tq_set, tq_inc, tb_get_neg, tb_set_neg, and_true, true_and, and_false, false_and, not_false_eq_true, not_true_eq_false] <;> rfl
    · simp (disch := omega) only [hz, g5, g0, G0, G1, G2, G3, G4, G5, hdiv, hmul, pk_rem, hx, hc1, ↓reduceIte, e_lt, e_bd, e_grd, e_clamp, e_l0, e_l1, e_l2, e_l3, e_l4, e_l5, e_l6, e_l7, e_l8, e_l9, e_l10, e_l12, e_l13, e_l20, e_l31, e_l32, e_l45, e_l48, e_l50, e_l57, e_l58, e_l59, e_l64, e_l70, e_l100, e_l106, e_l127, e_l138, e_l554, e_l799, e_l804, e_l1000, e_l2000, e_l2412, e_l100000, e_m1, nI_add, ni_mul, ni_sub, nI_clamp, e_ltT, e_ltF, e_leT, e_leF, e_eqT, e_eqF, e_mE, e_Em, e_mlt, e_mle, e_ltm, e_lem, e_gz, e_gt, e_bs, ite_self, e_el, e_er, tq_get, tq_set, tq_inc, tb_get_neg, tb_set_neg, and_true, true_and, and_false, false_and, not_false_eq_true, not_true_eq_false] <;> rfl
  · simp (disch := omega) only [hz, g5, g0, G0, G1, G2, G3, G4, G5, hdiv, hmul, pk_rem, hc1, ↓reduceIte, e_lt, e_bd, e_grd, e_clamp, e_l0, e_l1, e_l2, e_l3, e_l4, e_l5, e_l6, e_l7, e_l8, e_l9, e_l10, e_l12, e_l13, e_l20, e_l31, e_l32, e_l45, e_l48, e_l50, e_l57, e_l58, e_l59, e_l64, e_l70, e_l100, e_l106, e_l127, e_l138, e_l554, e_l799, e_l804, e_l1000, e_l2000, e_l2412, e_l100000, e_m1, nI_add, ni_mul, ni_sub, nI_clamp, e_ltT, e_ltF, e_leT, e_leF, e_eqT, e_eqF, e_mE, e_Em, e_mlt, e_mle, e_ltm, e_lem, e_gz, e_gt, e_bs, ite_self, e_el, e_er, tq_get, tq_set, tq_inc, tb_get_neg, tb_set_neg, and_true, true_and, and_false, false_and, not_false_eq_true, not_true_eq_false] <;> rfl
theorem lr_h3 {w : V11} {n i T : Nat} (hz : w.1.1 = 804) (hn : n ≤ 10) (g5 : w.1.2 5 = nI n) (g0 : w.1.2 0 = nI T) (hT : T < 2097152) (hi : i < n) {c0 lv st sp hd : Nat} (hc0 : c0 < 32) (hlv : lv ≤ 100) (hst : st ≤ 100000) (hs2 : sp < 32) (hd1 : 1 ≤ hd) (hd2 : hd ≤ 1000) (G0 : w.1.2 (10 + 6 * i) = nI 1) (G1 : w.1.2 (10 + 6 * i + 1) = nI c0) (G2 : w.1.2 (10 + 6 * i + 2) = nI sp) (G3 : w.1.2 (10 + 6 * i + 3) = nI hd) (G4 : w.1.2 (10 + 6 * i + 4) = nI lv) (G5 : w.1.2 (10 + 6 * i + 5) = nI st) (hT2 : ¬ st ≤ T) : ∀ c, c < 32 → ∀ (M : Nat) (x : Int32), qX11_levelNow_17 w (nI c) (M + 1) x (nI i) = qX11_levelNow_17 w (nI c) M x (nI (i + 1)) := by
  intro c hc M x
  have hng := e_neg (a := T) (b := st) (by omega) (by omega)
  rw [qX11_levelNow_17]
  simp (disch := omega) only [hz, g5, g0, G0, G1, G2, G3, G4, G5, hng, ↓reduceIte, e_lt, e_bd, e_grd, e_clamp, e_l0, e_l1, e_l2, e_l3, e_l4, e_l5, e_l6, e_l7, e_l8, e_l9, e_l10, e_l12, e_l13, e_l20, e_l31, e_l32, e_l45, e_l48, e_l50, e_l57, e_l58, e_l59, e_l64, e_l70, e_l100, e_l106, e_l127, e_l138, e_l554, e_l799, e_l804, e_l1000, e_l2000, e_l2412, e_l100000, e_m1, nI_add, ni_mul, ni_sub, nI_clamp, e_ltT, e_ltF, e_leT, e_leF, e_eqT, e_eqF, e_mE, e_Em, e_mlt, e_mle, e_ltm, e_lem, e_gz, e_gt, e_bs, ite_self, e_el, e_er, tq_get, tq_set, tq_inc, tb_get_neg, tb_set_neg, and_true, true_and, and_false, false_and, not_false_eq_true, not_true_eq_false] <;> rfl
theorem lv_step {tf f f0 : Nat → Int32} {w : V11} {n i T : Nat} (hz : w.1.1 = 804) (hn : n ≤ 10) (g5 : w.1.2 5 = nI n) (g0 : w.1.2 0 = nI T) (hT : T < 2097152) (hi : i < n)
    (hk : ∀ j, j < 6 → tf (i * 6 + j) = w.1.2 (10 + 6 * i + j)) (hok : sigOk w.1.2 i) (hf : ∀ c, c < 32 → ∃ l, l ≤ 100 ∧ f c = nI l) :
    ∃ f1 : Nat → Int32, (∀ N, qX7_raiseLevels_2 ((nI 10, nI 6, 10 * 6, tf), nI n) (nI T) (32, f0) (N + 1) (nI i) f = qX7_raiseLevels_2 ((nI 10, nI 6, 10 * 6, tf), nI n) (nI T) (32, f0) N (nI (i + 1)) f1) ∧ (∀ c, c < 32 → ∀ M, qX11_levelNow_17 w (nI c) (M + 1) (f c) (nI i) = qX11_levelNow_17 w (nI c) M (f1 c) (nI (i + 1))) ∧ ∀ c, c < 32 → ∃ l, l ≤ 100 ∧ f1 c = nI l := by
  rcases hok with ⟨G0, ⟨c0, hc0, G1⟩, ⟨lv, hlv, G2⟩, ⟨st, hst, G3⟩, ⟨on, per, h1, h2, h3, G4, G5⟩⟩ | ⟨G0, ⟨c0, hc0, G1⟩, ⟨sp, hs1, hs2, G2⟩, ⟨hd, hd1, hd2, G3⟩, ⟨lv, hlv, G4⟩, ⟨st, hst, G5⟩⟩
  · have k0 := (hk 0 (by decide)).trans G0
    have k1 := (hk 1 (by decide)).trans G1
    have k2 := (hk 2 (by decide)).trans G2
    have k3 := (hk 3 (by decide)).trans G3
    have k4 := (hk 4 (by decide)).trans G4
    have k5 := (hk 5 (by decide)).trans G5
    by_cases hT2 : st ≤ T
    · have hm : (T - st) % per < 2097152 := Nat.lt_of_le_of_lt (Nat.mod_le _ _) (by omega)
      by_cases ha : (T - st) % per < on
      · exact lv_fin hf hlv (lc_a hn hT hi hc0 (Or.inl ⟨lc_p1 hn hT hi hc0 hlv hst h1 h2 h3 k0 k1 k2 k3 k4 k5 hT2 ha, k0, k2⟩)) (lr_p1 hz hn g5 g0 hT hi hc0 hlv hst h1 h2 h3 G0 G1 G2 G3 G4 G5 hT2 ha)
      · exact ⟨f, lc_b hn hT hi (Or.inl ⟨lc_p2 hn hT hi hc0 hlv hst h1 h2 h3 k0 k1 k2 k3 k4 k5 hT2 hm ha, k0, k2⟩), fun c hc M => lr_p2 hz hn g5 g0 hT hi hc0 hlv hst h1 h2 h3 G0 G1 G2 G3 G4 G5 hT2 hm ha c hc M (f c), hf⟩
    · exact ⟨f, lc_b hn hT hi (Or.inl ⟨lc_p3 hn hT hi hc0 hlv hst h1 h2 h3 k0 k1 k2 k3 k4 k5 hT2, k0, k2⟩), fun c hc M => lr_p3 hz hn g5 g0 hT hi hc0 hlv hst h1 h2 h3 G0 G1 G2 G3 G4 G5 hT2 c hc M (f c), hf⟩
  · have k0 := (hk 0 (by decide)).trans G0
    have k1 := (hk 1 (by decide)).trans G1
    have k2 := (hk 2 (by decide)).trans G2
    have k3 := (hk 3 (by decide)).trans G3
    have k4 := (hk 4 (by decide)).trans G4
    have k5 := (hk 5 (by decide)).trans G5
    by_cases hT2 : st ≤ T
    · have hm : (T - st) / hd ≤ 2097152 := Nat.le_trans (Nat.div_le_self _ _) (by omega)
      have hm2 : sp * ((T - st) / hd) ≤ 31 * 2097152 := Nat.mul_le_mul (by omega) hm
      have hdiv : nI (T - st) / nI hd = nI ((T - st) / hd) := pk_div (by omega) (by omega) (by omega)
      exact lv_fin hf hlv (lc_a hn hT hi (Nat.mod_lt _ (by decide)) (Or.inr ⟨lc_h1 hn hT hi hc0 hlv hst hs2 hd1 hd2 k0 k1 k2 k3 k4 k5 hT2 hdiv (ni_mul _ _) (by omega), k0, k4⟩)) (lr_h1 hz hn g5 g0 hT hi hc0 hlv hst hs2 hd1 hd2 G0 G1 G2 G3 G4 G5 hT2 hdiv (ni_mul _ _) (by omega))
    · exact ⟨f, lc_b hn hT hi (Or.inr ⟨lc_h3 hn hT hi hc0 hlv hst hs2 hd1 hd2 k0 k1 k2 k3 k4 k5 hT2, k0, k4⟩), fun c hc M => lr_h3 hz hn g5 g0 hT hi hc0 hlv hst hs2 hd1 hd2 G0 G1 G2 G3 G4 G5 hT2 c hc M (f c), hf⟩
theorem lv_loop {tf f0 : Nat → Int32} {w : V11} {n T : Nat} (hz : w.1.1 = 804) (hn : n ≤ 10) (g5 : w.1.2 5 = nI n) (g0 : w.1.2 0 = nI T) (hT : T < 2097152)
    (hk : ∀ i j, i < n → j < 6 → tf (i * 6 + j) = w.1.2 (10 + 6 * i + j)) (hok : ∀ i, i < n → sigOk w.1.2 i) : ∀ (d i : Nat) (f : Nat → Int32), i + d = n → (∀ c, c < 32 → ∃ l, l ≤ 100 ∧ f c = nI l) →
    ∃ f1 : Nat → Int32, (∀ N, d < N → qX7_raiseLevels_2 ((nI 10, nI 6, 10 * 6, tf), nI n) (nI T) (32, f0) N (nI i) f = some (nI n, f1)) ∧ (∀ c, c < 32 → ∀ M, d < M → qX11_levelNow_17 w (nI c) M (f c) (nI i) = some (f1 c, nI n)) ∧ ∀ c, c < 32 → ∃ l, l ≤ 100 ∧ f1 c = nI l := by
  intro d
  induction d with
  | zero =>
    intro i f hi hf
    refine ⟨f, fun N hN => ?_, fun c hc M hM => ?_, hf⟩
    · obtain ⟨N, rfl⟩ : ∃ N', N = N' + 1 := ⟨N - 1, by omega⟩
      rw [qX7_raiseLevels_2]
      have : i = n := by omega
      subst this
      simp (disch := omega) only [↓reduceIte, e_lt, e_bd, e_grd, e_clamp, e_l0, e_l1, e_l2, e_l3, e_l4, e_l5, e_l6, e_l7, e_l8, e_l9, e_l10, e_l12, e_l13, e_l20, e_l31, e_l32, e_l45, e_l48, e_l50, e_l57, e_l58, e_l59, e_l64, e_l70, e_l100, e_l106, e_l127, e_l138, e_l554, e_l799, e_l804, e_l1000, e_l2000, e_l2412, e_l100000, e_m1, nI_add, ni_mul, ni_sub, nI_clamp, e_ltT, e_ltF, e_leT, e_leF, e_eqT, e_eqF, e_mE, e_Em, e_mlt, e_mle, e_ltm, e_lem, e_gz, e_gt, e_bs, ite_self, e_el, e_er, tq_get, tq_set, tq_inc, tb_get_neg, tb_set_neg, and_true, true_and, and_false, false_and, not_false_eq_true, not_true_eq_false] <;> rfl
    · obtain ⟨M, rfl⟩ : ∃ N', M = N' + 1 := ⟨M - 1, by omega⟩
      rw [qX11_levelNow_17]
      have : i = n := by omega
      subst this
      simp (disch := omega) only [hz, g5, ↓reduceIte, e_lt, e_bd, e_grd, e_clamp, e_l0, e_l1, e_l2, e_l3, e_l4, e_l5, e_l6, e_l7, e_l8, e_l9, e_l10, e_l12, e_l13, e_l20, e_l31, e_l32, e_l45, e_l48, e_l50, e_l57, e_l58, e_l59, e_l64, e_l70, e_l100, e_l106, e_l127, e_l138, e_l554, e_l799, e_l804, e_l1000, e_l2000, e_l2412, e_l100000, e_m1, nI_add, ni_mul, ni_sub, nI_clamp, e_ltT, e_ltF, e_leT, e_leF, e_eqT, e_eqF, e_mE, e_Em, e_mlt, e_mle, e_ltm, e_lem, e_gz, e_gt, e_bs, ite_self, e_el, e_er, tq_get, tq_set, tq_inc, tb_get_neg, tb_set_neg, and_true, true_and, and_false, false_and, not_false_eq_true, not_true_eq_false] <;> rfl
  | succ d ih =>
    intro i f hi hf
    obtain ⟨f1, a1, a2, a3⟩ := lv_step (f := f) (f0 := f0) hz hn g5 g0 hT (show i < n by omega) (fun j hj => hk i j (by omega) hj) (hok i (by omega)) hf
    obtain ⟨f2, b1, b2, b3⟩ := ih (i + 1) f1 (by omega) a3
    refine ⟨f2, fun N hN => ?_, fun c hc M hM => ?_, b3⟩
    · obtain ⟨N, rfl⟩ : ∃ N', N = N' + 1 := ⟨N - 1, by omega⟩
      rw [a1]
      exact b1 N (by omega)
    · obtain ⟨M, rfl⟩ : ∃ N', M = N' + 1 := ⟨M - 1, by omega⟩
      rw [a2 c hc]
      exact b2 c hc M (by omega)
/-- the levels on both sides -/
theorem lv_all {N T : Nat} {v : V8} {w : V11} {lv : Nat → Int32} (hN : 5000 ≤ N) (hz : w.1.1 = 804) (h : Rsig v.1 w.1.2) (g0 : w.1.2 0 = nI T) (hT : T < 2097152) (v0 : v.2.2.2.2.1 = nI T) {fl : Nat} (g1 : w.1.2 1 = nI fl) (hfl : fl ≤ 100) (v1 : v.2.2.2.2.2.1 = nI fl) :
    ∃ f : Nat → Int32, sX8_fillLevels N v (32, lv) = some f ∧ (∀ c, c < 32 → sX11_levelNow N w (nI c) = some (f c)) ∧ ∀ c, c < 32 → ∃ l, l ≤ 100 ∧ f c = nI l := by
  obtain ⟨hTB, n, hn, h2, g5, hk, hok⟩ := h
  obtain ⟨tf, htf⟩ := hTB.ex
  have hs : v.1 = ((nI 10, nI 6, 10 * 6, tf), nI n) := by rw [← htf, ← h2]
  rw [htf] at hk
  have hk : ∀ i j, i < n → j < 6 → tf (i * 6 + j) = w.1.2 (10 + 6 * i + j) := hk
  obtain ⟨ff, q1, q2⟩ := s_fill (n := 32) (N := N) (f := lv) (x := nI fl) (by decide) (by omega)
  obtain ⟨f, a1, a2, a3⟩ := lv_loop (f0 := ff) hz hn g5 g0 hT hk hok n 0 ff (by omega) (fun c hc => ⟨fl, hfl, by rw [q2, if_pos hc]⟩)
  have b1 := a1 N (by omega)
  refine ⟨f, ?_, fun c hc => ?_, a3⟩
  · simp (disch := omega) only [sX8_fillLevels, v0, v1, q1, hs, sX7_raiseLevels, b1, ↓reduceIte, e_lt, e_bd, e_grd, e_clamp, e_l0, e_l1, e_l2, e_l3, e_l4, e_l5, e_l6, e_l7, e_l8, e_l9, e_l10, e_l12, e_l13, e_l20, e_l31, e_l32, e_l45, e_l48, e_l50, e_l57, e_l58, e_l59, e_l64, e_l70, e_l100, e_l106, e_l127, e_l138, e_l554, e_l799, e_l804, e_l1000, e_l2000, e_l2412, e_l100000, e_m1, nI_add, ni_mul, ni_sub, nI_clamp, e_ltT, e_ltF, e_leT, e_leF, e_eqT, e_eqF, e_mE, e_Em, e_mlt, e_mle, e_ltm, e_lem, e_gz, e_gt, e_bs, ite_self, e_el, e_er, tq_get, tq_set, tq_inc, tb_get_neg, tb_set_neg, and_true, true_and, and_false, false_and, not_false_eq_true, not_true_eq_false] <;> rfl
  · have b2 := a2 c hc N (by omega)
    rw [q2 c, if_pos hc] at b2
    simp (disch := omega) only [sX11_levelNow, hz, g1, b2, ↓reduceIte, e_lt, e_bd, e_grd, e_clamp, e_l0, e_l1, e_l2, e_l3, e_l4, e_l5, e_l6, e_l7, e_l8, e_l9, e_l10, e_l12, e_l13, e_l20, e_l31, e_l32, e_l45, e_l48, e_l50, e_l57, e_l58, e_l59, e_l64, e_l70, e_l100, e_l106, e_l127, e_l138, e_l554, e_l799, e_l804, e_l1000, e_l2000, e_l2412, e_l100000, e_m1, nI_add, ni_mul, ni_sub, nI_clamp, e_ltT, e_ltF, e_leT, e_leF, e_eqT, e_eqF, e_mE, e_Em, e_mlt, e_mle, e_ltm, e_lem, e_gz, e_gt, e_bs, ite_self, e_el, e_er, tq_get, tq_set, tq_inc, tb_get_neg, tb_set_neg, and_true, true_and, and_false, false_and, not_false_eq_true, not_true_eq_false] <;> rfl
theorem pu_level {N : Nat} (hN : 5000 ≤ N) : PU_level RR N := by
  intro cn v w p1 hcn h
  by_cases hA : nI 0 ≤ p1 ∧ p1 < nI 32
  case neg =>
    refine Or.inr ⟨(nI 0, setTh w (nI 1)), ?_, ?_, rfl, h.th (nI 1)⟩
    · simp (disch := omega) only [sX10_level, c_idx, hA, ↓reduceIte, e_lt, e_bd, e_grd, e_clamp, e_l0, e_l1, e_l2, e_l3, e_l4, e_l5, e_l6, e_l7, e_l8, e_l9, e_l10, e_l12, e_l13, e_l20, e_l31, e_l32, e_l45, e_l48, e_l50, e_l57, e_l58, e_l59, e_l64, e_l70, e_l100, e_l106, e_l127, e_l138, e_l554, e_l799, e_l804, e_l1000, e_l2000, e_l2412, e_l100000, e_m1, nI_add, ni_mul, ni_sub, nI_clamp, e_ltT, e_ltF, e_leT, e_leF, e_eqT, e_eqF, e_mE, e_Em, e_mlt, e_mle, e_ltm, e_lem, e_gz, e_gt, e_bs, ite_self, e_el, e_er, tq_get, tq_set, tq_inc, tb_get_neg, tb_set_neg, and_true, true_and, and_false, false_and, not_false_eq_true, not_true_eq_false] <;> rfl
    · simp (disch := omega) only [sX11_level, m_isC', hA, m_go0, ↓reduceIte, e_lt, e_bd, e_grd, e_clamp, e_l0, e_l1, e_l2, e_l3, e_l4, e_l5, e_l6, e_l7, e_l8, e_l9, e_l10, e_l12, e_l13, e_l20, e_l31, e_l32, e_l45, e_l48, e_l50, e_l57, e_l58, e_l59, e_l64, e_l70, e_l100, e_l106, e_l127, e_l138, e_l554, e_l799, e_l804, e_l1000, e_l2000, e_l2412, e_l100000, e_m1, nI_add, ni_mul, ni_sub, nI_clamp, e_ltT, e_ltF, e_leT, e_leF, e_eqT, e_eqF, e_mE, e_Em, e_mlt, e_mle, e_ltm, e_lem, e_gz, e_gt, e_bs, ite_self, e_el, e_er, tq_get, tq_set, tq_inc, tb_get_neg, tb_set_neg, and_true, true_and, and_false, false_and, not_false_eq_true, not_true_eq_false] <;> rfl
  obtain ⟨c, hc, rfl⟩ := rg_lt (by decide) hA.1 hA.2
  obtain ⟨h1, h2, ⟨t1, t2, t, t3, t4, t5, t6, fl, th, gp, tl, n1, n2, n3, n4, n5, n6, n7, n8, n9, n10⟩, h4⟩ := id h
  obtain ⟨f, a1, a2, a3⟩ := lv_all (N := N) (T := t) (v := v.2.2.1) (w := setTh w (nI 0)) (lv := v.2.2.2.2.2.2) hN h1.1 t1 t4 (by omega) (by rw [n6]) n7 n1 (by rw [n6])
  have hl : v.2.2.2.2.2 = (32, v.2.2.2.2.2.2) := by
    have q : v.2.2.2.2.2.1 = 32 := h1.2.2.2.2.2.2.2.2.2.2
    rw [← q]
  have a2 := a2 c hc
  have hs : v.2.2.2.2.2.1 = 32 := h1.2.2.2.2.2.2.2.2.2.2
  have a1 : sX8_fillLevels N v.2.2.1 v.2.2.2.2.2 = some f := by
    rw [hl]
    exact a1
  refine Or.inl ⟨(f c, (v.1, v.2.1, v.2.2.1, v.2.2.2.1, v.2.2.2.2.1, (32, f))), (f c, setTh w (nI 0)), ?_, ?_, rfl, rfl, ?_⟩
  · simp (disch := omega) only [sX10_level, c_idx, hs, a1, ↓reduceIte, e_lt, e_bd, e_grd, e_clamp, e_l0, e_l1, e_l2, e_l3, e_l4, e_l5, e_l6, e_l7, e_l8, e_l9, e_l10, e_l12, e_l13, e_l20, e_l31, e_l32, e_l45, e_l48, e_l50, e_l57, e_l58, e_l59, e_l64, e_l70, e_l100, e_l106, e_l127, e_l138, e_l554, e_l799, e_l804, e_l1000, e_l2000, e_l2412, e_l100000, e_m1, nI_add, ni_mul, ni_sub, nI_clamp, e_ltT, e_ltF, e_leT, e_leF, e_eqT, e_eqF, e_mE, e_Em, e_mlt, e_mle, e_ltm, e_lem, e_gz, e_gt, e_bs, ite_self, e_el, e_er, tq_get, tq_set, tq_inc, tb_get_neg, tb_set_neg, and_true, true_and, and_false, false_and, not_false_eq_true, not_true_eq_false] <;> rfl
  · simp (disch := omega) only [sX11_level, m_isC', m_go11, a2, ↓reduceIte, e_lt, e_bd, e_grd, e_clamp, e_l0, e_l1, e_l2, e_l3, e_l4, e_l5, e_l6, e_l7, e_l8, e_l9, e_l10, e_l12, e_l13, e_l20, e_l31, e_l32, e_l45, e_l48, e_l50, e_l57, e_l58, e_l59, e_l64, e_l70, e_l100, e_l106, e_l127, e_l138, e_l554, e_l799, e_l804, e_l1000, e_l2000, e_l2412, e_l100000, e_m1, nI_add, ni_mul, ni_sub, nI_clamp, e_ltT, e_ltF, e_leT, e_leF, e_eqT, e_eqF, e_mE, e_Em, e_mlt, e_mle, e_ltm, e_lem, e_gz, e_gt, e_bs, ite_self, e_el, e_er, tq_get, tq_set, tq_inc, tb_get_neg, tb_set_neg, and_true, true_and, and_false, false_and, not_false_eq_true, not_true_eq_false] <;> rfl
  · obtain ⟨m, h6, h7⟩ := h4
    obtain ⟨z1, z2, z3, z4, z5, z6, z7, z8, z9, z10, z11⟩ := h1
    exact ⟨⟨z1, z2, z3, z4, z5, z6, z7, z8, z9, z10, rfl⟩, h2, h.2.2.1.mono (by omega), m, h6, h7.mono (by omega)⟩
