/-! one observation, all of it -/
theorem RE_cg {f o p : Nat → Int32} {n T : Nat} {od : Nat → Nat} {g g' : Nat → Int32} (h : RE f o p n od g T) (hg : ∀ k, k = 9 ∨ 554 ≤ k ∧ k < 804 → g k = g' k) : RE f o p n od g' T := by
  obtain ⟨h1, h2, h3, h4, h5, h6, h7⟩ := h
  refine ⟨h1, (hg 9 (by omega)).symm.trans h2, h3, h4, fun e j he hj => (h5 e j he hj).trans (EV_cg hg (by omega) hj), fun e he => evOk_cg hg (by omega) (h6 e he), fun c hc => ?_⟩
  rcases h7 c hc with ⟨h9, h10⟩ | ⟨e, h9, h10, h11, h12, h13⟩
  · exact Or.inl ⟨h9, fun e he q => by rw [← EV_cg hg (by omega) (by decide)]; exact h10 e he (by rw [EV_cg hg (by omega) (by decide)]; exact q)⟩
  · exact Or.inr ⟨e, h9, h10, by rw [← EV_cg hg (by omega) (by decide)]; exact h11, by rw [← EV_cg hg (by omega) (by decide)]; exact h12, fun e' he' q1 q2 => h13 e' he' (by rw [EV_cg hg (by omega) (by decide)]; exact q1) (by rw [EV_cg hg (by omega) (by decide)]; exact q2)⟩
theorem RE.mono {f o p : Nat → Int32} {n T T' : Nat} {od : Nat → Nat} {g : Nat → Int32} (h : RE f o p n od g T) (hT : T ≤ T') : RE f o p n od g T' := by
  obtain ⟨h1, h2, h3, h4, h5, h6, h7⟩ := h
  refine ⟨h1, h2, h3, h4, h5, fun e he => ?_, h7⟩
  obtain ⟨c1, ⟨a, c2, c2'⟩, ⟨b, c3, c3'⟩, c4⟩ := h6 e he
  exact ⟨c1, ⟨a, by omega, c2'⟩, ⟨b, by omega, c3'⟩, c4⟩
def RDB (f1 f2 f3 g : Nat → Int32) (B : Nat → Nat) : Prop := (∀ c, c < 32 → f3 (c * 1 + 0) = g (106 + c)) ∧ (∀ c j, c < 32 → j < 4 → f1 (c * 4 + j) = g (138 + 13 * c + j)) ∧ ∀ c, c < 32 → ∃ ob, ob ≤ B c ∧ g (138 + 13 * c) = nI ob ∧ g (138 + 13 * c + 4) = nI (min ob 8) ∧ ∀ j, j < min ob 8 → g (138 + 13 * c + 5 + j) = f2 (c * 8 + (ob - min ob 8 + j) % 8)
def dtv (f1 f2 f3 : Nat → Int32) : V1 := ((nI 32, nI 4, 32 * 4, f1), (nI 32, nI 8, 32 * 8, f2), (nI 32, nI 1, 32 * 1, f3))
theorem Rdet.ex {v : V1} {g : Nat → Int32} {T : Nat} (h : Rdet v g T) : ∃ f1 f2 f3, v = dtv f1 f2 f3 ∧ RDB f1 f2 f3 g (fun _ => T) := by
  obtain ⟨a1, a2, a3, h4⟩ := h
  obtain ⟨t1, t2, t3⟩ := v
  obtain ⟨f1, h1⟩ := a1.ex
  obtain ⟨f2, h2⟩ := a2.ex
  obtain ⟨f3, h3⟩ := a3.ex
  dsimp only at h1 h2 h3 h4
  subst h1; subst h2; subst h3
  exact ⟨f1, f2, f3, rfl, h4⟩
theorem RDB.det {f1 f2 f3 g : Nat → Int32} {B : Nat → Nat} {T : Nat} (h : RDB f1 f2 f3 g B) (hB : ∀ c, c < 32 → B c ≤ T) : Rdet (dtv f1 f2 f3) g T := by
  obtain ⟨h1, h2, h3⟩ := h
  refine ⟨TB.mk 32 4 f1, TB.mk 32 8 f2, TB.mk 32 1 f3, h1, h2, fun c hc => ?_⟩
  obtain ⟨ob, q1, q2⟩ := h3 c hc
  exact ⟨ob, Nat.le_trans q1 (hB c hc), q2⟩
theorem RDB_cg {f1 f2 f3 g g' : Nat → Int32} {B : Nat → Nat} (h : RDB f1 f2 f3 g B) (hg : ∀ k, 106 ≤ k ∧ k < 554 → g k = g' k) : RDB f1 f2 f3 g' B := by
  obtain ⟨h1, h2, h3⟩ := h
  refine ⟨fun c hc => (h1 c hc).trans (hg _ (by omega)), fun c j hc hj => (h2 c j hc hj).trans (hg _ (by omega)), fun c hc => ?_⟩
  obtain ⟨ob, h4, h5, h6, h7⟩ := h3 c hc
  exact ⟨ob, h4, (hg _ (by omega)).symm.trans h5, (hg _ (by omega)).symm.trans h6, fun j hj => (hg _ (by omega)).symm.trans (h7 j hj)⟩
theorem RDB_obs {f1 f2 f3 g g' f' : Nat → Int32} {B : Nat → Nat} {c ob : Nat} {lev : Int32} {hit : Nat} (h : RDB f1 f2 f3 g B) (hc : c < 32) (hh : hit ≤ 1) (hob : ob ≤ B c)
    (b1 : g (138 + 13 * c + 4) = nI (min ob 8)) (b2 : ∀ j, j < min ob 8 → g (138 + 13 * c + 5 + j) = f2 (c * 8 + (ob - min ob 8 + j) % 8))
    (k1 : ∀ k, ¬ (c * 4 ≤ k ∧ k < c * 4 + 4) → f' k = f1 k) (k2 : f' (c * 4 + 0) = nI (ob + 1)) (k3 : f' (c * 4 + 1) = (if hit = 0 then f1 (c * 4 + 1) else f1 (c * 4 + 1) + nI 1)) (k4 : f' (c * 4 + 2) = (if lev ≤ f1 (c * 4 + 2) then f1 (c * 4 + 2) else lev)) (k5 : f' (c * 4 + 3) = (if lev ≤ f3 (c * 1 + 0) then f1 (c * 4 + 3) else f1 (c * 4 + 3) + nI 1))
    (ho : obsF g g' c ob lev (decide (hit = 1))) : RDB f' (upd f2 (c * 8 + ob % 8) lev) f3 g' (fun c' => if c' = c then B c + 1 else B c') := by
  obtain ⟨h1, h2, h3⟩ := h
  obtain ⟨o1, o2, o3, o4, o5, o6, o7⟩ := ho
  refine ⟨fun c' hc' => ?_, fun c' j hc' hj => ?_, fun c' hc' => ?_⟩
  · rw [o1 _ (by omega)]
    exact h1 c' hc'
  · by_cases q : c' = c
    · subst q
      rcases (show j = 0 ∨ j = 1 ∨ j = 2 ∨ j = 3 by omega) with rfl | rfl | rfl | rfl
      · rw [k2, show 138 + 13 * c' + 0 = 138 + 13 * c' from rfl, o2]
      · rw [k3, o3, h2 c' 1 hc' (by omega)]
        rcases (show hit = 0 ∨ hit = 1 by omega) with rfl | rfl
        · rfl
        · rfl
      · rw [k4, o4, h2 c' 2 hc' (by omega)]
      · rw [k5, o5, h2 c' 3 hc' (by omega), h1 c' hc']
    · rw [k1 _ (by omega), o1 _ (by omega)]
      exact h2 c' j hc' hj
  · by_cases q : c' = c
    · subst q
      refine ⟨ob + 1, by dsimp only; rw [if_pos rfl]; omega, o2, o6, fun j hj => ?_⟩
      rw [o7 j hj]
      by_cases qj : j + 1 = min (ob + 1) 8
      · rw [if_pos qj, e_eq (by omega)]
      · rw [if_neg qj, e_ne (by omega)]
        by_cases q8 : ob < 8
        · rw [if_pos q8, show 138 + 13 * c' + 5 + j + 0 = 138 + 13 * c' + 5 + j from rfl, b2 j (by omega)]
          exact congrArg _ (by omega)
        · rw [if_neg q8, show 138 + 13 * c' + 5 + j + 1 = 138 + 13 * c' + 5 + (j + 1) by omega, b2 (j + 1) (by omega)]
          exact congrArg _ (by omega)
    · obtain ⟨ob', d1, d2, d3, d4⟩ := h3 c' hc'
      refine ⟨ob', by dsimp only; rw [if_neg q]; exact d1, ?_, ?_, fun j hj => ?_⟩
      · rw [o1 _ (by omega)]; exact d2
      · rw [o1 _ (by omega)]; exact d3
      · rw [o1 _ (by omega), e_ne (by omega)]; exact d4 j hj
theorem st_obs {N c T fl th l n : Nat} {w : V11} {sg : V7} {pn : V5} {f1 f2 f3 f o p : Nat → Int32} {od : Nat → Nat} {gp tl : Int32} {B : Nat → Nat} (hN : 5000 ≤ N) (hz : w.1.1 = 804) (hc : c < 32) (hB : B c < 2 ^ 30) (h0 : w.1.2 0 = nI T) (h2 : w.1.2 2 = nI th) (hth : th ≤ 100) (hl : l ≤ 100) (hlv : sX11_levelNow N w (nI c) = some (nI l)) (hD : RDB f1 f2 f3 w.1.2 B) (hE : RE f o p n od w.1.2 T) :
    ∃ f1' f2' f' o' p' n' od' g', sX8_observe N (sg, pn, dtv f1 f2 f3, lgv f o p n, nI T, nI fl, nI th, gp, tl) (nI c) (nI l) = some (sg, pn, dtv f1' f2' f3, lgv f' o' p' n', nI T, nI fl, nI th, gp, tl) ∧ sX11_observes N w (nI c) = some ((w.1.1, g'), w.2) ∧ RDB f1' f2' f3 g' (fun c' => if c' = c then B c + 1 else B c') ∧ RE f' o' p' n' od' g' T ∧ ∀ k, k ≠ 9 → k < 138 → g' k = w.1.2 k := by
  obtain ⟨ob, q1, q2, q3, q4⟩ := hD.2.2 c hc
  have hob1 : f1 (c * 4 + 0) = nI ob := (hD.2.1 c 0 hc (by omega)).trans q2
  obtain ⟨m1', m2'⟩ := m_obs hN hz hc q2 (by omega) q3 hlv
  by_cases hh : l ≤ th
  · obtain ⟨f1', a1, a2, a3, a4, a5, a6⟩ := c_obs (f2 := f2) (f3 := f3) hc hob1 (by omega) (nI l) (hit := 0) (by omega)
    obtain ⟨g1, r1, r2⟩ := m1' (by rw [h2]; exact nI_le hh (by omega))
    obtain ⟨f', p', g', s1, s2, s3, s4⟩ := ev_miss (w := ((w.1.1, g1), w.2)) (N := N) hz hN hc (RE_cg hE (fun k hk => (r1.1 k (by omega)).symm))
    have a1 : sX1_observe (dtv f1 f2 f3) (nI c) (nI l) (nI 0) = some (dtv f1' (upd f2 (c * 8 + ob % 8) (nI l)) f3) := a1
    refine ⟨f1', _, f', o, p', n, od, g', ?_, r2.trans s2, RDB_cg (RDB_obs (hit := 0) hD hc (by omega) q1 q3 q4 a2 a3 a4 a5 a6 r1) (fun k hk => (s4 k (by omega)).symm), s3, fun k hk1 hk2 => (s4 k (by omega)).trans (r1.1 k (by omega))⟩
    simp (disch := omega) only [sX8_observe, a1, s1, ↓reduceIte, e_lt, e_bd, e_grd, e_clamp, e_l0, e_l1, e_l2, e_l3, e_l4, e_l5, e_l6, e_l7, e_l8, e_l9, e_l10, e_l12, e_l13, e_l20, e_l31, e_l32, e_l45, e_l48, e_l50, e_l57, e_l58, e_l59, e_l64, e_l70, e_l100, e_l106, e_l127, e_l138, e_l554, e_l799, e_l804, e_l1000, e_l2000, e_l2412, e_l100000, e_m1, nI_add, ni_mul, ni_sub, nI_clamp, e_ltT, e_ltF, e_leT, e_leF, e_eqT, e_eqF, e_mE, e_Em, e_mlt, e_mle, e_ltm, e_lem, e_gz, e_gt, e_bs, ite_self, e_el, e_er, tq_get, tq_set, tq_inc, tb_get_neg, tb_set_neg, and_true, true_and, and_false, false_and, not_false_eq_true, not_true_eq_false] <;> rfl
  · obtain ⟨f1', a1, a2, a3, a4, a5, a6⟩ := c_obs (f2 := f2) (f3 := f3) hc hob1 (by omega) (nI l) (hit := 1) (by omega)
    obtain ⟨g1, r1, r2⟩ := m2' (by rw [h2]; exact nI_ge (by omega) (by omega))
    obtain ⟨f', o', p', n', od', g', s1, s2, s3, s4⟩ := ev_hit (w := ((w.1.1, g1), w.2)) (N := N) hz hN hc ((r1.1 0 (by omega)).trans h0) hl (RE_cg hE (fun k hk => (r1.1 k (by omega)).symm))
    have a1 : sX1_observe (dtv f1 f2 f3) (nI c) (nI l) (nI 1) = some (dtv f1' (upd f2 (c * 8 + ob % 8) (nI l)) f3) := a1
    refine ⟨f1', _, f', o', p', n', od', g', ?_, r2.trans s2, RDB_cg (RDB_obs (hit := 1) hD hc (by omega) q1 q3 q4 a2 a3 a4 a5 a6 r1) (fun k hk => (s4 k (by omega)).symm), s3, fun k hk1 hk2 => (s4 k (by omega)).trans (r1.1 k (by omega))⟩
    simp (disch := omega) only [sX8_observe, a1, s1, ↓reduceIte, e_lt, e_bd, e_grd, e_clamp, e_l0, e_l1, e_l2, e_l3, e_l4, e_l5, e_l6, e_l7, e_l8, e_l9, e_l10, e_l12, e_l13, e_l20, e_l31, e_l32, e_l45, e_l48, e_l50, e_l57, e_l58, e_l59, e_l64, e_l70, e_l100, e_l106, e_l127, e_l138, e_l554, e_l799, e_l804, e_l1000, e_l2000, e_l2412, e_l100000, e_m1, nI_add, ni_mul, ni_sub, nI_clamp, e_ltT, e_ltF, e_leT, e_leF, e_eqT, e_eqF, e_mE, e_Em, e_mlt, e_mle, e_ltm, e_lem, e_gz, e_gt, e_bs, ite_self, e_el, e_er, tq_get, tq_set, tq_inc, tb_get_neg, tb_set_neg, and_true, true_and, and_false, false_and, not_false_eq_true, not_true_eq_false] <;> rfl
