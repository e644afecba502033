section CG
variable {g g' : Nat → Int32}
theorem EV_cg (hg : ∀ k, k = 9 ∨ 554 ≤ k ∧ k < 804 → g k = g' k) {e j : Nat} (he : e < 50) (hj : j < 5) : EV g e j = EV g' e j := hg _ (by omega)
theorem sigOk_cg (hg : ∀ k, k = 5 ∨ 10 ≤ k ∧ k < 70 → g k = g' k) {i : Nat} (hi : i < 10) (h : sigOk g i) : sigOk g' i := by
  unfold sigOk at h ⊢
  rw [← hg (10 + 6 * i) (by omega), ← hg (10 + 6 * i + 1) (by omega), ← hg (10 + 6 * i + 2) (by omega), ← hg (10 + 6 * i + 3) (by omega), ← hg (10 + 6 * i + 4) (by omega), ← hg (10 + 6 * i + 5) (by omega)]
  exact h
theorem stepOk_cg (hg : ∀ k, 6 ≤ k ∧ k ≤ 8 ∨ 70 ≤ k ∧ k < 106 → g k = g' k) {i : Nat} (hi : i < 12) (h : stepOk g i) : stepOk g' i := by
  unfold stepOk at h ⊢
  rw [← hg (70 + 3 * i) (by omega), ← hg (70 + 3 * i + 1) (by omega), ← hg (70 + 3 * i + 2) (by omega)]
  exact h
theorem evOk_cg (hg : ∀ k, k = 9 ∨ 554 ≤ k ∧ k < 804 → g k = g' k) {T e : Nat} (he : e < 50) (h : evOk g T e) : evOk g' T e := by
  unfold evOk at h ⊢
  rw [← EV_cg hg he (show 0 < 5 by decide), ← EV_cg hg he (show 1 < 5 by decide), ← EV_cg hg he (show 2 < 5 by decide), ← EV_cg hg he (show 3 < 5 by decide), ← EV_cg hg he (show 4 < 5 by decide)]
  exact h
theorem Rsig_cg (hg : ∀ k, k = 5 ∨ 10 ≤ k ∧ k < 70 → g k = g' k) {v : V7} (h : Rsig v g) : Rsig v g' := by
  obtain ⟨h0, n, h1, h2, h3, h4, h5⟩ := h
  exact ⟨h0, n, h1, h2, (hg 5 (by omega)).symm.trans h3, fun i j hi hj => (h4 i j hi hj).trans (hg _ (by omega)), fun i hi => sigOk_cg hg (by omega) (h5 i hi)⟩
theorem Rpl_cg (hg : ∀ k, 6 ≤ k ∧ k ≤ 8 ∨ 70 ≤ k ∧ k < 106 → g k = g' k) {v : V5} (h : Rpl v g) : Rpl v g' := by
  obtain ⟨h00, n, p, el, h0, h1, h2, h3, h4, h5, h6, h7, h8, h9, h10, h11, h12⟩ := h
  exact ⟨h00, n, p, el, h0, h1, (hg 6 (by omega)).symm.trans h2, h3, (hg 7 (by omega)).symm.trans h4, h5, (hg 8 (by omega)).symm.trans h6, h7, h8, h9, fun q => by have := h9 q; rw [← hg _ (by omega)]; exact h10 q, fun i j hi hj => (h11 i j hi hj).trans (hg _ (by omega)), fun i hi => stepOk_cg hg (by omega) (h12 i hi)⟩
theorem Rdet_cg (hg : ∀ k, 106 ≤ k ∧ k < 554 → g k = g' k) {v : V1} {T : Nat} (h : Rdet v g T) : Rdet v g' T := by
  obtain ⟨a1, a2, a3, h1, h2, h3⟩ := h
  refine ⟨a1, a2, a3, fun c hc => (h1 c hc).trans (hg _ (by omega)), fun c j hc hj => (h2 c j hc hj).trans (hg _ (by omega)), fun c hc => ?_⟩
  obtain ⟨ob, h4, h5, h6, h7⟩ := h3 c hc
  exact ⟨ob, h4, (hg _ (by omega)).symm.trans h5, (hg _ (by omega)).symm.trans h6, fun j hj => (hg _ (by omega)).symm.trans (h7 j hj)⟩
theorem Rev_cg (hg : ∀ k, k = 9 ∨ 554 ≤ k ∧ k < 804 → g k = g' k) {v : V2} {T : Nat} (h : Rev v g T) : Rev v g' T := by
  obtain ⟨a1, a2, a3, n, od, h1, h2, h3, h4, h5, h6, h7, h8⟩ := h
  refine ⟨a1, a2, a3, n, od, h1, h2, (hg 9 (by omega)).symm.trans h3, h4, h5, fun e j he hj => (h6 e j he hj).trans (EV_cg hg (by omega) hj), fun e he => evOk_cg hg (by omega) (h7 e he), fun c hc => ?_⟩
  rcases h8 c hc with ⟨h9, h10⟩ | ⟨e, h9, h10, h11, h12, h13⟩
  · exact Or.inl ⟨h9, fun e he q => by rw [← EV_cg hg (by omega) (by decide)]; exact h10 e he (by rw [EV_cg hg (by omega) (by decide)]; exact q)⟩
  · exact Or.inr ⟨e, h9, h10, by rw [← EV_cg hg (by omega) (by decide)]; exact h11, by rw [← EV_cg hg (by omega) (by decide)]; exact h12, fun e' he' q1 q2 => h13 e' he' (by rw [EV_cg hg (by omega) (by decide)]; exact q1) (by rw [EV_cg hg (by omega) (by decide)]; exact q2)⟩
theorem Rnum_cg (hg : ∀ k, 1 ≤ k ∧ k ≤ 4 → g k = g' k) {v : Int32 × Int32 × Int32 × Int32 × Int32} {T : Nat} (h : Rnum v g T) : Rnum v g' T := by
  unfold Rnum at h ⊢
  rw [← hg 1 (by omega), ← hg 2 (by omega), ← hg 3 (by omega), ← hg 4 (by omega)]
  exact h
theorem ST_cg (hg : ∀ k, k < 804 → g k = g' k) {v : V8} {T : Nat} (h : ST v g T) : ST v g' T := by
  obtain ⟨h1, h2, t, h3, h4, h5, h6, h7⟩ := h
  exact ⟨Rsig_cg (fun k hk => hg k (by omega)) h1, Rpl_cg (fun k hk => hg k (by omega)) h2, t, h3, (hg 0 (by omega)).symm.trans h4, Rdet_cg (fun k hk => hg k (by omega)) h5, Rev_cg (fun k hk => hg k (by omega)) h6, Rnum_cg (fun k hk => hg k (by omega)) h7⟩
end CG
/-! states copied, saved and brought back: the class's side -/
theorem Rsig.same {v : V7} {g : Nat → Int32} {t : V9} (h : Rsig v g) (ht : TB 10 6 t) (hk : ∀ k, k < 10 * 6 → t.2.2.2 k = v.1.2.2.2 k) : Rsig (t, v.2) g := by
  obtain ⟨-, n, h1, h2, h3, h4, h5⟩ := h
  exact ⟨ht, n, h1, h2, h3, fun i j hi hj => (hk _ (by omega)).trans (h4 i j hi hj), h5⟩
theorem Rpl.same {v : V5} {g : Nat → Int32} {t : V9} (h : Rpl v g) (ht : TB 12 3 t) (hk : ∀ k, k < 12 * 3 → t.2.2.2 k = v.1.2.2.2 k) : Rpl (t, v.2) g := by
  obtain ⟨-, n, p, el, h0, h1, h2, h3, h4, h5, h6, h7, h8, h9, h10, h11, h12⟩ := h
  exact ⟨ht, n, p, el, h0, h1, h2, h3, h4, h5, h6, h7, h8, h9, h10, fun i j hi hj => (hk _ (by omega)).trans (h11 i j hi hj), h12⟩
theorem Rdet.same {v : V1} {g : Nat → Int32} {T : Nat} {t1 t2 t3 : V9} (h : Rdet v g T) (ht1 : TB 32 4 t1) (ht2 : TB 32 8 t2) (ht3 : TB 32 1 t3) (hk1 : ∀ k, k < 32 * 4 → t1.2.2.2 k = v.1.2.2.2 k) (hk2 : ∀ k, k < 32 * 8 → t2.2.2.2 k = v.2.1.2.2.2 k) (hk3 : ∀ k, k < 32 * 1 → t3.2.2.2 k = v.2.2.2.2.2 k) : Rdet (t1, t2, t3) g T := by
  obtain ⟨-, -, -, h1, h2, h3⟩ := h
  refine ⟨ht1, ht2, ht3, fun c hc => (hk3 _ (by omega)).trans (h1 c hc), fun c j hc hj => (hk1 _ (by omega)).trans (h2 c j hc hj), fun c hc => ?_⟩
  obtain ⟨ob, h4, h5, h6, h7⟩ := h3 c hc
  exact ⟨ob, h4, h5, h6, fun j hj => (h7 j hj).trans (hk2 _ (by omega)).symm⟩
theorem Rev.same {v : V2} {g : Nat → Int32} {T : Nat} {t1 t3 : V9} {f : Nat → Int32} (h : Rev v g T) (ht1 : TB 50 5 t1) (ht3 : TB 32 1 t3) (hk1 : ∀ k, k < 50 * 5 → t1.2.2.2 k = v.1.2.2.2 k) (hk2 : ∀ k, k < 50 → f k = v.2.1.2 k) (hk3 : ∀ k, k < 32 * 1 → t3.2.2.2 k = v.2.2.1.2.2.2 k) : Rev (t1, (50, f), t3, v.2.2.2) g T := by
  obtain ⟨-, -, -, n, od, h1, h2, h3, h4, h5, h6, h7, h8⟩ := h
  refine ⟨ht1, rfl, ht3, n, od, h1, h2, h3, fun i hi => ⟨(h4 i hi).1, (hk2 i hi).trans (h4 i hi).2⟩, h5, fun e j he hj => ?_, h7, fun c hc => ?_⟩
  · have := (h4 e (by omega)).1
    exact (hk1 _ (by omega)).trans (h6 e j he hj)
  · rcases h8 c hc with ⟨h9, h10⟩ | ⟨e, h9, h10, h11⟩
    · exact Or.inl ⟨(hk3 _ (by omega)).trans h9, h10⟩
    · exact Or.inr ⟨e, h9, (hk3 _ (by omega)).trans h10, h11⟩
theorem sh_copy {v u : V8} (hv : SH v) (hu : SH u) : ∃ v', sX8_copyFrom v u = some v' ∧ SH v' ∧ ∀ g T, ST u g T → ST v' g T := by
  obtain ⟨a1, b1, c1, d1⟩ := tb_copy hv.1 hu.1 (by decide)
  obtain ⟨a2, b2, c2, d2⟩ := tb_copy hv.2.1 hu.2.1 (by decide)
  obtain ⟨a3, b3, c3, d3⟩ := tb_copy hv.2.2.1 hu.2.2.1 (by decide)
  obtain ⟨a4, b4, c4, d4⟩ := tb_copy hv.2.2.2.1 hu.2.2.2.1 (by decide)
  obtain ⟨a5, b5, c5, d5⟩ := tb_copy hv.2.2.2.2.1 hu.2.2.2.2.1 (by decide)
  obtain ⟨a6, b6, c6, d6⟩ := tb_copy hv.2.2.2.2.2.1 hu.2.2.2.2.2.1 (by decide)
  obtain ⟨a7, b7, c7, d7⟩ := tb_copy hv.2.2.2.2.2.2.2 hu.2.2.2.2.2.2.2 (by decide)
  have e1 : sX7_copyFrom v.1 u.1 = some (a1, u.1.2) := by unfold sX7_copyFrom; rw [b1]; rfl
  have e2 : sX5_copyFrom v.2.1 u.2.1 = some (a2, u.2.1.2) := by unfold sX5_copyFrom; rw [b2]; rfl
  have e3 : sX1_copyFrom v.2.2.1 u.2.2.1 = some (a3, a4, a5) := by
    unfold sX1_copyFrom
    rw [b3]
    show ((sX9_copyFrom v.2.2.1.2.1 u.2.2.1.2.1).bind _) = _
    rw [b4]
    show ((sX9_copyFrom v.2.2.1.2.2 u.2.2.1.2.2).bind _) = _
    rw [b5]
    rfl
  have e4 : ∃ f, sX2_copyFrom v.2.2.2.1 u.2.2.2.1 = some (a6, (50, f), a7, u.2.2.2.1.2.2.2) ∧ ∀ k, k < 50 → f k = u.2.2.2.1.2.1.2 k := by
    refine ⟨va_cpy u.2.2.2.1.2.1.2 v.2.2.2.1.2.1.2 0 0 50, ?_, fun k hk => ?_⟩
    · have q1 := hv.2.2.2.2.2.2.1
      have q2 := hu.2.2.2.2.2.2.1
      simp (disch := omega) only [sX2_copyFrom, b6, q1, q2, e_ac, b7, ↓reduceIte, e_lt, e_bd, e_grd, e_clamp, e_l0, e_l1, e_l2, e_l3, e_l4, e_l5, e_l6, e_l7, e_l8, e_l9, e_l10, e_l12, e_l13, e_l20, e_l31, e_l32, e_l45, e_l48, e_l50, e_l57, e_l58, e_l59, e_l64, e_l70, e_l100, e_l106, e_l127, e_l138, e_l554, e_l799, e_l804, e_l1000, e_l2000, e_l2412, e_l100000, e_m1, nI_add, ni_mul, ni_sub, nI_clamp, e_ltT, e_ltF, e_leT, e_leF, e_eqT, e_eqF, e_mE, e_Em, e_mlt, e_mle, e_ltm, e_lem, e_gz, e_gt, e_bs, ite_self, e_el, e_er, tq_get, tq_set, tq_inc, tb_get_neg, tb_set_neg, and_true, true_and, and_false, false_and, not_false_eq_true, not_true_eq_false] <;> rfl
    · unfold va_cpy
      rw [if_pos (by omega), show 0 + (k - 0) = k by omega]
  obtain ⟨f, e4, hf⟩ := e4
  refine ⟨(( a1, u.1.2), (a2, u.2.1.2), (a3, a4, a5), (a6, (50, f), a7, u.2.2.2.1.2.2.2), u.2.2.2.2), ?_, ⟨c1, c2, c3, c4, c5, c6, rfl, c7⟩, fun g T hS => ?_⟩
  · unfold sX8_copyFrom
    rw [e1]
    show ((sX5_copyFrom v.2.1 u.2.1).bind _) = _
    rw [e2]
    show ((sX1_copyFrom v.2.2.1 u.2.2.1).bind _) = _
    rw [e3]
    show ((sX2_copyFrom v.2.2.2.1 u.2.2.2.1).bind _) = _
    rw [e4]
    rfl
  · obtain ⟨h1, h2, t, h3, h4, h5, h6, h7⟩ := hS
    exact ⟨h1.same c1 d1, h2.same c2 d2, t, h3, h4, h5.same c3 c4 c5 d3 d4 d5, h6.same c6 c7 d6 hf d7, h7⟩
theorem ST.mono {v : V8} {g : Nat → Int32} {T T' : Nat} (h : ST v g T) (hT : T ≤ T') : ST v g T' := by
  obtain ⟨h1, h2, t, h3, h4⟩ := h
  exact ⟨h1, h2, t, by omega, h4⟩
theorem st_at0 (v : V3) : sX3_stateAt_0 v = some () := rfl
theorem st_at1 (v : V3) : sX3_stateAt_1 v = some () := rfl
theorem st_at2 (v : V3) : sX3_stateAt_2 v = some () := rfl
theorem st_at3 (v : V3) : sX3_stateAt_3 v = some () := rfl
/-- a state saved: it is the newest; beyond four the oldest is gone -/
def svd (m : Nat) : Nat := if m = 4 then 4 else m + 1
theorem hist_save {v : V3} {sv sv' : Nat → Int32} {m T : Nat} {u : V8} {g : Nat → Int32} (h : Rhist v sv m T) (hu : ST u g T)
    (ho : ∀ j k, j + 1 < svd m → k < 804 → sv' (804 * j + k) = sv (804 * (if m = 4 then j + 1 else j) + k)) (hn : ∀ k, k < 804 → sv' (804 * (svd m - 1) + k) = g k) : ∃ v', sX3_save v u = some v' ∧ Rhist v' sv' (svd m) T := by
  obtain ⟨s0, s1, s2, s3, nx0, ct0⟩ := v
  obtain ⟨nx, hnx, hm, e1, e2, hs, hj⟩ := h
  dsimp only at e1 e2
  subst e1; subst e2
  have hsu := hu.sh
  have hc : (if nI 4 < nI (m + 1) then nI 4 else nI (m + 1)) = nI (svd m) := by
    unfold svd
    by_cases h4 : m = 4
    · subst h4
      rfl
    · rw [if_neg (nI_nlt (by omega) (by decide)), if_neg h4]
  have hm1 : svd m ≤ 4 := by unfold svd; split <;> omega
  have hmp : 1 ≤ svd m := by unfold svd; split <;> omega
  have key : ∀ (v' : V3), v'.2.2.2.2.1 = nI ((nx + 1) % 4) → v'.2.2.2.2.2 = nI (svd m) → (∀ k, k < 4 → SH (slot v' k)) → ST (slot v' nx) g T → (∀ k, k < 4 → k ≠ nx → slot v' k = slot (s0, s1, s2, s3, nI nx, nI m) k) → Rhist v' sv' (svd m) T := by
    intro v' q1 q2 q3 q4 q5
    refine ⟨(nx + 1) % 4, by omega, hm1, q1, q2, q3, fun j hj' => ?_⟩
    by_cases hl : j + 1 = svd m
    · have e9 : ((nx + 1) % 4 + 4 - svd m + j) % 4 = nx := by omega
      rw [e9]
      refine ST_cg (fun k hk => ?_) q4
      rw [← hn k hk, show svd m - 1 = j by omega]
    · have e8 : ((nx + 1) % 4 + 4 - svd m + j) % 4 ≠ nx := by omega
      rw [q5 _ (by omega) e8]
      have hb : (if m = 4 then j + 1 else j) < m := by
        unfold svd at hj' hl
        by_cases h4 : m = 4
        · rw [if_pos h4] at hj' hl ⊢; omega
        · rw [if_neg h4] at hj' hl ⊢; omega
      have e7 : ((nx + 1) % 4 + 4 - svd m + j) % 4 = (nx + 4 - m + (if m = 4 then j + 1 else j)) % 4 := by
        unfold svd at hj' hl ⊢
        by_cases h4 : m = 4
        · rw [if_pos h4] at hj' hl ⊢; rw [if_pos h4]; omega
        · rw [if_neg h4] at hj' hl ⊢; rw [if_neg h4]; omega
      rw [e7]
      refine ST_cg (fun k hk => ?_) (hj _ hb)
      exact (ho j k (by omega) hk).symm
  rcases (show nx = 0 ∨ nx = 1 ∨ nx = 2 ∨ nx = 3 by omega) with rfl | rfl | rfl | rfl
  · obtain ⟨o, c1, c2, c3⟩ := sh_copy (hs 0 (by decide)) hsu
    have c1 : sX8_copyFrom s0 u = some o := c1
    refine ⟨(o, s1, s2, s3, nI 1, nI (svd m)), ?_, ?_⟩
    · simp (disch := omega) only [sX3_save, sX3_save_0, st_at0, c1, hc, ↓reduceIte, e_lt, e_bd, e_grd, e_clamp, e_l0, e_l1, e_l2, e_l3, e_l4, e_l5, e_l6, e_l7, e_l8, e_l9, e_l10, e_l12, e_l13, e_l20, e_l31, e_l32, e_l45, e_l48, e_l50, e_l57, e_l58, e_l59, e_l64, e_l70, e_l100, e_l106, e_l127, e_l138, e_l554, e_l799, e_l804, e_l1000, e_l2000, e_l2412, e_l100000, e_m1, nI_add, ni_mul, ni_sub, nI_clamp, e_ltT, e_ltF, e_leT, e_leF, e_eqT, e_eqF, e_mE, e_Em, e_mlt, e_mle, e_ltm, e_lem, e_gz, e_gt, e_bs, ite_self, e_el, e_er, tq_get, tq_set, tq_inc, tb_get_neg, tb_set_neg, and_true, true_and, and_false, false_and, not_false_eq_true, not_true_eq_false] <;> rfl
    · refine key _ rfl rfl (fun k hk => ?_) (c3 g T hu) (fun k hk hne => ?_)
      · rcases (show k = 0 ∨ k = 1 ∨ k = 2 ∨ k = 3 by omega) with rfl | rfl | rfl | rfl
        · exact c2
        · exact hs 1 (by decide)
        · exact hs 2 (by decide)
        · exact hs 3 (by decide)
      · rcases (show k = 1 ∨ k = 2 ∨ k = 3 by omega) with rfl | rfl | rfl <;> rfl
  · obtain ⟨o, c1, c2, c3⟩ := sh_copy (hs 1 (by decide)) hsu
    have c1 : sX8_copyFrom s1 u = some o := c1
    refine ⟨(s0, o, s2, s3, nI 2, nI (svd m)), ?_, ?_⟩
    · simp (disch := omega) only [sX3_save, sX3_save_1, st_at1, c1, hc, ↓reduceIte, e_lt, e_bd, e_grd, e_clamp, e_l0, e_l1, e_l2, e_l3, e_l4, e_l5, e_l6, e_l7, e_l8, e_l9, e_l10, e_l12, e_l13, e_l20, e_l31, e_l32, e_l45, e_l48, e_l50, e_l57, e_l58, e_l59, e_l64, e_l70, e_l100, e_l106, e_l127, e_l138, e_l554, e_l799, e_l804, e_l1000, e_l2000, e_l2412, e_l100000, e_m1, nI_add, ni_mul, ni_sub, nI_clamp, e_ltT, e_ltF, e_leT, e_leF, e_eqT, e_eqF, e_mE, e_Em, e_mlt, e_mle, e_ltm, e_lem, e_gz, e_gt, e_bs, ite_self, e_el, e_er, tq_get, tq_set, tq_inc, tb_get_neg, tb_set_neg, and_true, true_and, and_false, false_and, not_false_eq_true, not_true_eq_false] <;> rfl
    · refine key _ rfl rfl (fun k hk => ?_) (c3 g T hu) (fun k hk hne => ?_)
      · rcases (show k = 0 ∨ k = 1 ∨ k = 2 ∨ k = 3 by omega) with rfl | rfl | rfl | rfl
        · exact hs 0 (by decide)
        · exact c2
        · exact hs 2 (by decide)
        · exact hs 3 (by decide)
      · rcases (show k = 0 ∨ k = 2 ∨ k = 3 by omega) with rfl | rfl | rfl <;> rfl
  · obtain ⟨o, c1, c2, c3⟩ := sh_copy (hs 2 (by decide)) hsu
    have c1 : sX8_copyFrom s2 u = some o := c1
    refine ⟨(s0, s1, o, s3, nI 3, nI (svd m)), ?_, ?_⟩
    · simp (disch := omega) only [sX3_save, sX3_save_2, st_at2, c1, hc, ↓reduceIte, e_lt, e_bd, e_grd, e_clamp, e_l0, e_l1, e_l2, e_l3, e_l4, e_l5, e_l6, e_l7, e_l8, e_l9, e_l10, e_l12, e_l13, e_l20, e_l31, e_l32, e_l45, e_l48, e_l50, e_l57, e_l58, e_l59, e_l64, e_l70, e_l100, e_l106, e_l127, e_l138, e_l554, e_l799, e_l804, e_l1000, e_l2000, e_l2412, e_l100000, e_m1, nI_add, ni_mul, ni_sub, nI_clamp, e_ltT, e_ltF, e_leT, e_leF, e_eqT, e_eqF, e_mE, e_Em, e_mlt, e_mle, e_ltm, e_lem, e_gz, e_gt, e_bs, ite_self, e_el, e_er, tq_get, tq_set, tq_inc, tb_get_neg, tb_set_neg, and_true, true_and, and_false, false_and, not_false_eq_true, not_true_eq_false] <;> rfl
    · refine key _ rfl rfl (fun k hk => ?_) (c3 g T hu) (fun k hk hne => ?_)
      · rcases (show k = 0 ∨ k = 1 ∨ k = 2 ∨ k = 3 by omega) with rfl | rfl | rfl | rfl
        · exact hs 0 (by decide)
        · exact hs 1 (by decide)
        · exact c2
        · exact hs 3 (by decide)
      · rcases (show k = 0 ∨ k = 1 ∨ k = 3 by omega) with rfl | rfl | rfl <;> rfl
  · obtain ⟨o, c1, c2, c3⟩ := sh_copy (hs 3 (by decide)) hsu
    have c1 : sX8_copyFrom s3 u = some o := c1
    refine ⟨(s0, s1, s2, o, nI 0, nI (svd m)), ?_, ?_⟩
    · simp (disch := omega) only [sX3_save, sX3_save_3, st_at3, c1, hc, ↓reduceIte, e_lt, e_bd, e_grd, e_clamp, e_l0, e_l1, e_l2, e_l3, e_l4, e_l5, e_l6, e_l7, e_l8, e_l9, e_l10, e_l12, e_l13, e_l20, e_l31, e_l32, e_l45, e_l48, e_l50, e_l57, e_l58, e_l59, e_l64, e_l70, e_l100, e_l106, e_l127, e_l138, e_l554, e_l799, e_l804, e_l1000, e_l2000, e_l2412, e_l100000, e_m1, nI_add, ni_mul, ni_sub, nI_clamp, e_ltT, e_ltF, e_leT, e_leF, e_eqT, e_eqF, e_mE, e_Em, e_mlt, e_mle, e_ltm, e_lem, e_gz, e_gt, e_bs, ite_self, e_el, e_er, tq_get, tq_set, tq_inc, tb_get_neg, tb_set_neg, and_true, true_and, and_false, false_and, not_false_eq_true, not_true_eq_false] <;> rfl
    · refine key _ rfl rfl (fun k hk => ?_) (c3 g T hu) (fun k hk hne => ?_)
      · rcases (show k = 0 ∨ k = 1 ∨ k = 2 ∨ k = 3 by omega) with rfl | rfl | rfl | rfl
        · exact hs 0 (by decide)
        · exact hs 1 (by decide)
        · exact hs 2 (by decide)
        · exact c2
      · rcases (show k = 0 ∨ k = 1 ∨ k = 2 by omega) with rfl | rfl | rfl <;> rfl
/-- the newest saved state brought back -/
theorem hist_rest {v : V3} {sv : Nat → Int32} {m T : Nat} {u : V8} (h : Rhist v sv m T) (hm0 : 0 < m) (hu : SH u) : ∃ v' u', sX3_restore v u = some (v', u') ∧ Rhist v' sv (m - 1) T ∧ v'.2.2.2.2.2 = nI (m - 1) ∧ ST u' (fun k => sv (804 * (m - 1) + k)) T := by
  obtain ⟨s0, s1, s2, s3, nx0, ct0⟩ := v
  obtain ⟨nx, hnx, hm, e1, e2, hs, hj⟩ := h
  dsimp only at e1 e2
  subst e1; subst e2
  have key : ∀ (v' : V3), v'.2.2.2.2.1 = nI ((nx + 3) % 4) → v'.2.2.2.2.2 = nI (m - 1) → (∀ k, slot v' k = slot (s0, s1, s2, s3, nI nx, nI m) k) → Rhist v' sv (m - 1) T := by
    intro v' q1 q2 q3
    refine ⟨(nx + 3) % 4, by omega, by omega, q1, q2, fun k hk => by rw [q3]; exact hs k hk, fun j hj' => ?_⟩
    rw [q3, show ((nx + 3) % 4 + 4 - (m - 1) + j) % 4 = (nx + 4 - m + j) % 4 by omega]
    exact hj j (by omega)
  have hl := hj (m - 1) (by omega)
  rw [show (nx + 4 - m + (m - 1)) % 4 = (nx + 3) % 4 by omega] at hl
  rcases (show nx = 0 ∨ nx = 1 ∨ nx = 2 ∨ nx = 3 by omega) with rfl | rfl | rfl | rfl
  · obtain ⟨o, c1, c2, c3⟩ := sh_copy hu (hs 3 (by decide))
    have c1 : sX8_copyFrom u s3 = some o := c1
    refine ⟨(s0, s1, s2, s3, nI 3, nI (m - 1)), o, ?_, key _ rfl rfl (fun _ => rfl), rfl, c3 _ T hl⟩
    simp (disch := omega) only [sX3_restore, sX3_restore_0, st_at3, c1, ↓reduceIte, e_lt, e_bd, e_grd, e_clamp, e_l0, e_l1, e_l2, e_l3, e_l4, e_l5, e_l6, e_l7, e_l8, e_l9, e_l10, e_l12, e_l13, e_l20, e_l31, e_l32, e_l45, e_l48, e_l50, e_l57, e_l58, e_l59, e_l64, e_l70, e_l100, e_l106, e_l127, e_l138, e_l554, e_l799, e_l804, e_l1000, e_l2000, e_l2412, e_l100000, e_m1, nI_add, ni_mul, ni_sub, nI_clamp, e_ltT, e_ltF, e_leT, e_leF, e_eqT, e_eqF, e_mE, e_Em, e_mlt, e_mle, e_ltm, e_lem, e_gz, e_gt, e_bs, ite_self, e_el, e_er, tq_get, tq_set, tq_inc, tb_get_neg, tb_set_neg, and_true, true_and, and_false, false_and, not_false_eq_true, not_true_eq_false] <;> rfl
  · obtain ⟨o, c1, c2, c3⟩ := sh_copy hu (hs 0 (by decide))
    have c1 : sX8_copyFrom u s0 = some o := c1
    refine ⟨(s0, s1, s2, s3, nI 0, nI (m - 1)), o, ?_, key _ rfl rfl (fun _ => rfl), rfl, c3 _ T hl⟩
    simp (disch := omega) only [sX3_restore, sX3_restore_1, st_at0, c1, ↓reduceIte, e_lt, e_bd, e_grd, e_clamp, e_l0, e_l1, e_l2, e_l3, e_l4, e_l5, e_l6, e_l7, e_l8, e_l9, e_l10, e_l12, e_l13, e_l20, e_l31, e_l32, e_l45, e_l48, e_l50, e_l57, e_l58, e_l59, e_l64, e_l70, e_l100, e_l106, e_l127, e_l138, e_l554, e_l799, e_l804, e_l1000, e_l2000, e_l2412, e_l100000, e_m1, nI_add, ni_mul, ni_sub, nI_clamp, e_ltT, e_ltF, e_leT, e_leF, e_eqT, e_eqF, e_mE, e_Em, e_mlt, e_mle, e_ltm, e_lem, e_gz, e_gt, e_bs, ite_self, e_el, e_er, tq_get, tq_set, tq_inc, tb_get_neg, tb_set_neg, and_true, true_and, and_false, false_and, not_false_eq_true, not_true_eq_false] <;> rfl
  · obtain ⟨o, c1, c2, c3⟩ := sh_copy hu (hs 1 (by decide))
    have c1 : sX8_copyFrom u s1 = some o := c1
    refine ⟨(s0, s1, s2, s3, nI 1, nI (m - 1)), o, ?_, key _ rfl rfl (fun _ => rfl), rfl, c3 _ T hl⟩
    simp (disch := omega) only [sX3_restore, sX3_restore_2, st_at1, c1, ↓reduceIte, e_lt, e_bd, e_grd, e_clamp, e_l0, e_l1, e_l2, e_l3, e_l4, e_l5, e_l6, e_l7, e_l8, e_l9, e_l10, e_l12, e_l13, e_l20, e_l31, e_l32, e_l45, e_l48, e_l50, e_l57, e_l58, e_l59, e_l64, e_l70, e_l100, e_l106, e_l127, e_l138, e_l554, e_l799, e_l804, e_l1000, e_l2000, e_l2412, e_l100000, e_m1, nI_add, ni_mul, ni_sub, nI_clamp, e_ltT, e_ltF, e_leT, e_leF, e_eqT, e_eqF, e_mE, e_Em, e_mlt, e_mle, e_ltm, e_lem, e_gz, e_gt, e_bs, ite_self, e_el, e_er, tq_get, tq_set, tq_inc, tb_get_neg, tb_set_neg, and_true, true_and, and_false, false_and, not_false_eq_true, not_true_eq_false] <;> rfl
  · obtain ⟨o, c1, c2, c3⟩ := sh_copy hu (hs 2 (by decide))
    have c1 : sX8_copyFrom u s2 = some o := c1
    refine ⟨(s0, s1, s2, s3, nI 2, nI (m - 1)), o, ?_, key _ rfl rfl (fun _ => rfl), rfl, c3 _ T hl⟩
    simp (disch := omega) only [sX3_restore, sX3_restore_3, st_at2, c1, ↓reduceIte, e_lt, e_bd, e_grd, e_clamp, e_l0, e_l1, e_l2, e_l3, e_l4, e_l5, e_l6, e_l7, e_l8, e_l9, e_l10, e_l12, e_l13, e_l20, e_l31, e_l32, e_l45, e_l48, e_l50, e_l57, e_l58, e_l59, e_l64, e_l70, e_l100, e_l106, e_l127, e_l138, e_l554, e_l799, e_l804, e_l1000, e_l2000, e_l2412, e_l100000, e_m1, nI_add, ni_mul, ni_sub, nI_clamp, e_ltT, e_ltF, e_leT, e_leF, e_eqT, e_eqF, e_mE, e_Em, e_mlt, e_mle, e_ltm, e_lem, e_gz, e_gt, e_bs, ite_self, e_el, e_er, tq_get, tq_set, tq_inc, tb_get_neg, tb_set_neg, and_true, true_and, and_false, false_and, not_false_eq_true, not_true_eq_false] <;> rfl
theorem Rhist.mono {v : V3} {sv : Nat → Int32} {m T T' : Nat} (h : Rhist v sv m T) (hT : T ≤ T') : Rhist v sv m T' := by
  obtain ⟨nx, h1, h2, h3, h4, h5, h6⟩ := h
  exact ⟨nx, h1, h2, h3, h4, h5, fun j hj => (h6 j hj).mono hT⟩
