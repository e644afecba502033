/-! the log is full: the first closed event goes -/
theorem ev_closed {f o p : Nat → Int32} {T : Nat} {od : Nat → Nat} {g : Nat → Int32} (h : RE f o p 50 od g T) : ∃ e, e < 50 ∧ EV g e 4 = nI 0 ∧ ∀ e', e' < e → EV g e' 4 = nI 1 := by
  obtain ⟨-, -, -, -, -, h6, h7⟩ := id h
  have hx : ∃ e, e < 50 ∧ ¬ EV g e 4 = nI 1 := by
    refine Classical.byContradiction (fun hno => ?_)
    have hall : ∀ e, e < 50 → EV g e 4 = nI 1 := fun e he => Classical.byContradiction (fun q => hno ⟨e, he, q⟩)
    have hch : ∀ e, e < 50 → (EV g e 0).toNatClampNeg < 32 ∧ EV g e 0 = nI (EV g e 0).toNatClampNeg := by
      intro e he
      obtain ⟨⟨c, hc, ec⟩, -⟩ := h6 e he
      rw [ec, nI_clamp (by omega)]
      exact ⟨hc, rfl⟩
    have := fb_holes 32 50 (fun e => (EV g e 0).toNatClampNeg) (fun i hi => (hch i hi).1) (fun i j hij hj z => by
      have z : (EV g i 0).toNatClampNeg = (EV g j 0).toNatClampNeg := z
      have hi : i < 50 := by omega
      rcases h7 _ (hch i hi).1 with ⟨-, q⟩ | ⟨e, -, -, -, -, q⟩
      · exact q i hi (hall i hi) (hch i hi).2
      · have q1 := q i hi (hall i hi) (hch i hi).2
        have q2 := q j hj (hall j hj) (by rw [z]; exact (hch j hj).2)
        omega)
    omega
  obtain ⟨e, he, he2, he3⟩ := fb_first (p := fun e => ¬ EV g e 4 = nI 1) hx
  refine ⟨e, he, ?_, fun e' q => Classical.byContradiction (he3 e' q)⟩
  obtain ⟨-, -, -, -, q⟩ := h6 e he
  rcases q with q | q
  · exact q
  · exact absurd q he2
theorem q_dropC {f o p : Nat → Int32} {od : Nat → Nat} {g : Nat → Int32} {T e : Nat} (h : RE f o p 50 od g T) (he : e < 50) (e4 : EV g e 4 = nI 0) (hb : ∀ e', e' < e → EV g e' 4 = nI 1) : ∀ (d i N : Nat), i + d = e → d < N → qX2_dropIfFull_19 (lgv f o p 50) N (nI i) = some (.inl (nI (od e), nI e)) := by
  obtain ⟨-, -, h3, -, h5, -, -⟩ := id h
  intro d
  induction d with
  | zero =>
    intro i N hi hN
    obtain ⟨N, rfl⟩ : ∃ N', N = N' + 1 := ⟨N - 1, by omega⟩
    have : i = e := by omega
    subst this
    obtain ⟨d1, d2⟩ := h3 i he
    have k := (h5 i 4 he (by omega)).trans e4
    rw [qX2_dropIfFull_19]
    simp (disch := omega) only [lgv, d2, k, ↓reduceIte, e_lt, e_bd, e_grd, e_clamp, e_l0, e_l1, e_l2, e_l3, e_l4, e_l5, e_l6, e_l7, e_l8, e_l9, e_l10, e_l12, e_l13, e_l20, e_l31, e_l32, e_l45, e_l48, e_l50, e_l57, e_l58, e_l59, e_l64, e_l70, e_l100, e_l106, e_l127, e_l138, e_l554, e_l799, e_l804, e_l1000, e_l2000, e_l2412, e_l100000, e_m1, nI_add, ni_mul, ni_sub, nI_clamp, e_ltT, e_ltF, e_leT, e_leF, e_eqT, e_eqF, e_mE, e_Em, e_mlt, e_mle, e_ltm, e_lem, e_gz, e_gt, e_bs, ite_self, e_el, e_er, tq_get, tq_set, tq_inc, tb_get_neg, tb_set_neg, and_true, true_and, and_false, false_and, not_false_eq_true, not_true_eq_false] <;> rfl
  | succ d ih =>
    intro i N hi hN
    obtain ⟨N, rfl⟩ : ∃ N', N = N' + 1 := ⟨N - 1, by omega⟩
    obtain ⟨d1, d2⟩ := h3 i (by omega)
    have k := (h5 i 4 (by omega) (by omega)).trans (hb i (by omega))
    have hi2 := ih (i + 1) N (by omega) (by omega)
    unfold lgv at hi2
    rw [qX2_dropIfFull_19]
    simp (disch := omega) only [lgv, d2, k, hi2, ↓reduceIte, e_lt, e_bd, e_grd, e_clamp, e_l0, e_l1, e_l2, e_l3, e_l4, e_l5, e_l6, e_l7, e_l8, e_l9, e_l10, e_l12, e_l13, e_l20, e_l31, e_l32, e_l45, e_l48, e_l50, e_l57, e_l58, e_l59, e_l64, e_l70, e_l100, e_l106, e_l127, e_l138, e_l554, e_l799, e_l804, e_l1000, e_l2000, e_l2412, e_l100000, e_m1, nI_add, ni_mul, ni_sub, nI_clamp, e_ltT, e_ltF, e_leT, e_leF, e_eqT, e_eqF, e_mE, e_Em, e_mlt, e_mle, e_ltm, e_lem, e_gz, e_gt, e_bs, ite_self, e_el, e_er, tq_get, tq_set, tq_inc, tb_get_neg, tb_set_neg, and_true, true_and, and_false, false_and, not_false_eq_true, not_true_eq_false] <;> rfl
theorem q_dropR1 {w : V11} {e : Nat} (hz : w.1.1 = 804) (he : e < 50) (e4 : EV w.1.2 e 4 = nI 0) (hb : ∀ e', e' < e → EV w.1.2 e' 4 = nI 1) : ∀ (d i N : Nat), i + d = e → d < N → qX11_dropsClosed_2 w N (nI i) = some (nI e) := by
  intro d
  induction d with
  | zero =>
    intro i N hi hN
    obtain ⟨N, rfl⟩ : ∃ N', N = N' + 1 := ⟨N - 1, by omega⟩
    have : i = e := by omega
    subst this
    have k : w.1.2 (554 + 5 * i + 4) = nI 0 := e4
    rw [qX11_dropsClosed_2]
    simp (disch := omega) only [hz, sX11_eventAt, k, ↓reduceIte, e_lt, e_bd, e_grd, e_clamp, e_l0, e_l1, e_l2, e_l3, e_l4, e_l5, e_l6, e_l7, e_l8, e_l9, e_l10, e_l12, e_l13, e_l20, e_l31, e_l32, e_l45, e_l48, e_l50, e_l57, e_l58, e_l59, e_l64, e_l70, e_l100, e_l106, e_l127, e_l138, e_l554, e_l799, e_l804, e_l1000, e_l2000, e_l2412, e_l100000, e_m1, nI_add, ni_mul, ni_sub, nI_clamp, e_ltT, e_ltF, e_leT, e_leF, e_eqT, e_eqF, e_mE, e_Em, e_mlt, e_mle, e_ltm, e_lem, e_gz, e_gt, e_bs, ite_self, e_el, e_er, tq_get, tq_set, tq_inc, tb_get_neg, tb_set_neg, and_true, true_and, and_false, false_and, not_false_eq_true, not_true_eq_false] <;> rfl
  | succ d ih =>
    intro i N hi hN
    obtain ⟨N, rfl⟩ : ∃ N', N = N' + 1 := ⟨N - 1, by omega⟩
    have k : w.1.2 (554 + 5 * i + 4) = nI 1 := hb i (by omega)
    have hi2 := ih (i + 1) N (by omega) (by omega)
    rw [qX11_dropsClosed_2]
    simp (disch := omega) only [hz, sX11_eventAt, k, hi2, ↓reduceIte, e_lt, e_bd, e_grd, e_clamp, e_l0, e_l1, e_l2, e_l3, e_l4, e_l5, e_l6, e_l7, e_l8, e_l9, e_l10, e_l12, e_l13, e_l20, e_l31, e_l32, e_l45, e_l48, e_l50, e_l57, e_l58, e_l59, e_l64, e_l70, e_l100, e_l106, e_l127, e_l138, e_l554, e_l799, e_l804, e_l1000, e_l2000, e_l2412, e_l100000, e_m1, nI_add, ni_mul, ni_sub, nI_clamp, e_ltT, e_ltF, e_leT, e_leF, e_eqT, e_eqF, e_mE, e_Em, e_mlt, e_mle, e_ltm, e_lem, e_gz, e_gt, e_bs, ite_self, e_el, e_er, tq_get, tq_set, tq_inc, tb_get_neg, tb_set_neg, and_true, true_and, and_false, false_and, not_false_eq_true, not_true_eq_false] <;> rfl
theorem q_dropR2 {w : V11} (hz : w.1.1 = 804) : ∀ (N i : Nat) (f : Nat → Int32), i ≤ 799 → 799 - i < N → ∃ f', qX11_dropsClosed_28 w N (nI i) f = some (nI 799, f') ∧ ∀ k, f' k = if i ≤ k ∧ k < 799 then f (k + 5) else f k := by
  intro N
  induction N with
  | zero => intro i f _ h; omega
  | succ N ih =>
    intro i f hi hN
    unfold qX11_dropsClosed_28
    rcases Nat.lt_or_ge i 799 with hlt | hge
    · simp (disch := omega) only [hz, ↓reduceIte, e_lt, e_bd, e_grd, e_clamp, e_l0, e_l1, e_l2, e_l3, e_l4, e_l5, e_l6, e_l7, e_l8, e_l9, e_l10, e_l12, e_l13, e_l20, e_l31, e_l32, e_l45, e_l48, e_l50, e_l57, e_l58, e_l59, e_l64, e_l70, e_l100, e_l106, e_l127, e_l138, e_l554, e_l799, e_l804, e_l1000, e_l2000, e_l2412, e_l100000, e_m1, nI_add, ni_mul, ni_sub, nI_clamp, e_ltT, e_ltF, e_leT, e_leF, e_eqT, e_eqF, e_mE, e_Em, e_mlt, e_mle, e_ltm, e_lem, e_gz, e_gt, e_bs, ite_self, e_el, e_er, tq_get, tq_set, tq_inc, tb_get_neg, tb_set_neg, and_true, true_and, and_false, false_and, not_false_eq_true, not_true_eq_false]
      obtain ⟨f', e1, e2⟩ := ih (i + 1) (upd f i (f (i + 5))) (by omega) (by omega)
      refine ⟨f', e1, fun k => ?_⟩
      rw [e2 k]
      unfold upd
      by_cases q1 : k = i
      · subst q1
        rw [if_neg (by omega), if_pos rfl, if_pos (by omega)]
      · by_cases q2 : i ≤ k ∧ k < 799
        · rw [if_pos (by omega), if_neg (by omega), if_pos q2]
        · rw [if_neg (by omega), if_neg q1, if_neg q2]
    · have : i = 799 := by omega
      subst this
      simp (disch := omega) only [↓reduceIte, e_lt, e_bd, e_grd, e_clamp, e_l0, e_l1, e_l2, e_l3, e_l4, e_l5, e_l6, e_l7, e_l8, e_l9, e_l10, e_l12, e_l13, e_l20, e_l31, e_l32, e_l45, e_l48, e_l50, e_l57, e_l58, e_l59, e_l64, e_l70, e_l100, e_l106, e_l127, e_l138, e_l554, e_l799, e_l804, e_l1000, e_l2000, e_l2412, e_l100000, e_m1, nI_add, ni_mul, ni_sub, nI_clamp, e_ltT, e_ltF, e_leT, e_leF, e_eqT, e_eqF, e_mE, e_Em, e_mlt, e_mle, e_ltm, e_lem, e_gz, e_gt, e_bs, ite_self, e_el, e_er, tq_get, tq_set, tq_inc, tb_get_neg, tb_set_neg, and_true, true_and, and_false, false_and, not_false_eq_true, not_true_eq_false]
      exact ⟨f, rfl, fun k => by rw [if_neg (by omega)]⟩
def odr (od : Nat → Nat) (e : Nat) : Nat → Nat := fun i => if i < e then od i else if i < 49 then od (i + 1) else od e
theorem ev_drop {f o p : Nat → Int32} {T N : Nat} {od : Nat → Nat} {w : V11} (hz : w.1.1 = 804) (hN : 5000 ≤ N) (h : RE f o p 50 od w.1.2 T) :
    ∃ o' od' g', sX2_dropIfFull N (lgv f o p 50) = some (lgv f o' p 49) ∧ sX11_dropsClosed N w = some ((w.1.1, g'), w.2) ∧ RE f o' p 49 od' g' T ∧ ∀ k, ¬ (k = 9 ∨ 554 ≤ k ∧ k < 804) → g' k = w.1.2 k := by
  obtain ⟨e, he, e4, hb⟩ := ev_closed h
  obtain ⟨h1, h2, h3, h4, h5, h6, h7⟩ := id h
  have a1 := q_dropC h he e4 hb e 0 N (by omega) (by omega)
  have a2 := q_dropR1 hz he e4 hb e 0 N (by omega) (by omega)
  obtain ⟨f', a3, a4⟩ := q_dropR2 hz N (554 + 5 * e + 0) w.1.2 (by omega) (by omega)
  have a9 : f' 9 = nI 50 := by rw [a4, if_neg (by omega)]; exact h2
  have hE : ∀ e' j, e' < 49 → j < 5 → EV (upd f' 9 (nI 49)) e' j = EV w.1.2 (if e' < e then e' else e' + 1) j := by
    intro e' j he' hj
    unfold EV
    rw [e_ne (by omega), a4]
    by_cases q : e' < e
    · rw [if_neg (by omega), if_pos q]
    · rw [if_pos (by omega), if_neg q]
      exact congrArg _ (by omega)
  refine ⟨upd (va_cpy o o (e + 1) e (49 - e)) 49 (nI (od e)), odr od e, upd f' 9 (nI 49), ?_, ?_, ⟨by omega, e_eq rfl, fun i hi => ?_, fun i j hij hj => ?_, fun e' j he' hj => ?_, fun e' he' => ?_, fun c hc => ?_⟩, fun k hk => ?_⟩
  · have ee : 50 - 1 - e = 49 - e := rfl
    have e9 : (50 : Nat) - 1 = 49 := rfl
    unfold lgv at a1
    simp (disch := omega) only [lgv, sX2_dropIfFull, a1, e_ac, ee, e9, ↓reduceIte, e_lt, e_bd, e_grd, e_clamp, e_l0, e_l1, e_l2, e_l3, e_l4, e_l5, e_l6, e_l7, e_l8, e_l9, e_l10, e_l12, e_l13, e_l20, e_l31, e_l32, e_l45, e_l48, e_l50, e_l57, e_l58, e_l59, e_l64, e_l70, e_l100, e_l106, e_l127, e_l138, e_l554, e_l799, e_l804, e_l1000, e_l2000, e_l2412, e_l100000, e_m1, nI_add, ni_mul, ni_sub, nI_clamp, e_ltT, e_ltF, e_leT, e_leF, e_eqT, e_eqF, e_mE, e_Em, e_mlt, e_mle, e_ltm, e_lem, e_gz, e_gt, e_bs, ite_self, e_el, e_er, tq_get, tq_set, tq_inc, tb_get_neg, tb_set_neg, and_true, true_and, and_false, false_and, not_false_eq_true, not_true_eq_false] <;> rfl
  · have e9 : (50 : Nat) - 1 = 49 := rfl
    simp (disch := omega) only [sX11_dropsClosed, a2, sX11_eventAt, a3, hz, a9, e9, ↓reduceIte, e_lt, e_bd, e_grd, e_clamp, e_l0, e_l1, e_l2, e_l3, e_l4, e_l5, e_l6, e_l7, e_l8, e_l9, e_l10, e_l12, e_l13, e_l20, e_l31, e_l32, e_l45, e_l48, e_l50, e_l57, e_l58, e_l59, e_l64, e_l70, e_l100, e_l106, e_l127, e_l138, e_l554, e_l799, e_l804, e_l1000, e_l2000, e_l2412, e_l100000, e_m1, nI_add, ni_mul, ni_sub, nI_clamp, e_ltT, e_ltF, e_leT, e_leF, e_eqT, e_eqF, e_mE, e_Em, e_mlt, e_mle, e_ltm, e_lem, e_gz, e_gt, e_bs, ite_self, e_el, e_er, tq_get, tq_set, tq_inc, tb_get_neg, tb_set_neg, and_true, true_and, and_false, false_and, not_false_eq_true, not_true_eq_false] <;> rfl
  · unfold odr upd va_cpy
    by_cases q1 : i < e
    · rw [if_pos q1, if_neg (by omega), if_neg (by omega)]
      exact h3 i hi
    · rw [if_neg q1]
      by_cases q2 : i < 49
      · rw [if_pos q2, if_neg (by omega), if_pos (by omega), show e + 1 + (i - e) = i + 1 by omega]
        exact h3 (i + 1) (by omega)
      · rw [if_neg q2, if_pos (by omega)]
        exact ⟨(h3 e he).1, rfl⟩
  · unfold odr
    by_cases q1 : i < e
    · rw [if_pos q1]
      by_cases q2 : j < e
      · rw [if_pos q2]
        exact h4 i j hij hj
      · rw [if_neg q2]
        by_cases q3 : j < 49
        · rw [if_pos q3]
          exact h4 i (j + 1) (by omega) (by omega)
        · rw [if_neg q3]
          exact h4 i e q1 he
    · rw [if_neg q1, if_pos (show i < 49 by omega), if_neg (show ¬ j < e by omega)]
      by_cases q3 : j < 49
      · rw [if_pos q3]
        exact h4 (i + 1) (j + 1) (by omega) (by omega)
      · rw [if_neg q3]
        intro z
        exact h4 e (i + 1) (by omega) (by omega) z.symm
  · rw [hE e' j he' hj]
    unfold odr
    by_cases q1 : e' < e
    · rw [if_pos q1, if_pos q1]
      exact h5 e' j (by omega) hj
    · rw [if_neg q1, if_neg q1, if_pos he']
      exact h5 (e' + 1) j (by omega) hj
  · have r := h6 (if e' < e then e' else e' + 1) (by split <;> omega)
    unfold evOk at r ⊢
    rw [hE e' 0 he' (by omega), hE e' 1 he' (by omega), hE e' 2 he' (by omega), hE e' 3 he' (by omega), hE e' 4 he' (by omega)]
    exact r
  · rcases h7 c hc with ⟨g1, g2⟩ | ⟨e2, g1, g2, g3, g4, g5⟩
    · refine Or.inl ⟨g1, fun e' he' z => ?_⟩
      rw [hE e' 4 he' (by omega)] at z
      rw [hE e' 0 he' (by omega)]
      exact g2 _ (by split <;> omega) z
    · have hne : e2 ≠ e := fun z => by
        rw [z, e4] at g4
        exact absurd g4 (by decide)
      refine Or.inr ⟨if e2 < e then e2 else e2 - 1, by split <;> omega, ?_, ?_, ?_, fun e' he' z z2 => ?_⟩
      · rw [g2]
        unfold odr
        by_cases q : e2 < e
        · rw [if_pos q, if_pos q]
        · rw [if_neg q, if_neg (by omega), if_pos (by omega), show e2 - 1 + 1 = e2 by omega]
      · rw [hE _ 0 (by split <;> omega) (by omega)]
        by_cases q : e2 < e
        · rw [if_pos q, if_pos q]; exact g3
        · rw [if_neg q, if_neg (by omega), show e2 - 1 + 1 = e2 by omega]; exact g3
      · rw [hE _ 4 (by split <;> omega) (by omega)]
        by_cases q : e2 < e
        · rw [if_pos q, if_pos q]; exact g4
        · rw [if_neg q, if_neg (by omega), show e2 - 1 + 1 = e2 by omega]; exact g4
      · rw [hE e' 4 he' (by omega)] at z
        rw [hE e' 0 he' (by omega)] at z2
        have := g5 _ (by split <;> omega) z z2
        by_cases q : e' < e
        · rw [if_pos q] at this
          rw [if_pos (by omega)]
          exact this
        · rw [if_neg q] at this
          rw [if_neg (by omega)]
          omega
  · rw [e_ne (by omega), a4, if_neg (by omega)]
/-- a hit, in all cases -/
theorem ev_hit {f o p : Nat → Int32} {n T c N l : Nat} {od : Nat → Nat} {w : V11} (hz : w.1.1 = 804) (hN : 5000 ≤ N) (hc : c < 32) (h0 : w.1.2 0 = nI T) (hl : l ≤ 100) (h : RE f o p n od w.1.2 T) :
    ∃ f' o' p' n' od' g', sX2_noteHit N (lgv f o p n) (nI c) (nI T) (nI l) = some (lgv f' o' p' n') ∧ sX11_hits N w (nI c) (nI l) = some ((w.1.1, g'), w.2) ∧ RE f' o' p' n' od' g' T ∧ ∀ k, ¬ (k = 9 ∨ 554 ≤ k ∧ k < 804) → g' k = w.1.2 k := by
  obtain ⟨h1, h2, h3, h4, h5, h6, h7⟩ := id h
  rcases h7 c hc with ⟨b1, b2⟩ | ⟨e, b1, b2, b3, b4, b5⟩
  · by_cases hn : n < 50
    · obtain ⟨f', p', g', q1, q2, q3, q4⟩ := ev_hit2 hz hN hc h0 hl h hn b1 b2
      exact ⟨f', o, p', n + 1, od, g', q1, q2, q3, q4⟩
    · have : n = 50 := by omega
      subst this
      obtain ⟨o', od', g1, r1, r2, r3, r4⟩ := ev_drop hz hN h
      have hm := m_open0 hz h2 h1 hN b2
      have b2' : ∀ e, e < 49 → EV g1 e 4 = nI 1 → EV g1 e 0 ≠ nI c := by
        obtain ⟨-, -, -, -, -, -, r7⟩ := id r3
        rcases r7 c hc with ⟨-, q⟩ | ⟨e, q0, q, -⟩
        · exact q
        · rw [b1, e_Em (by
            obtain ⟨-, -, r8, -⟩ := id r3
            have := (r8 e (by omega)).1
            omega)] at q
          exact q.elim
      obtain ⟨f', p', g', q1, q2, q3, q4⟩ := ev_hit2 (w := ((w.1.1, g1), w.2)) hz hN hc ((r4 0 (by omega)).trans h0) hl r3 (by omega) b1 b2'
      have hm2 := m_open0 (w := ((w.1.1, g1), w.2)) (c := c) (N := N) hz r3.2.1 r3.1 hN b2'
      refine ⟨f', o', p', 50, od', g', ?_, ?_, q3, fun k hk => (q4 k hk).trans (r4 k hk)⟩
      · have x1 : sX9_get (lgv f o p 50).2.2.1 (nI c) (nI 0) = some m1 := by
          simp (disch := omega) only [lgv, b1, ↓reduceIte, e_lt, e_bd, e_grd, e_clamp, e_l0, e_l1, e_l2, e_l3, e_l4, e_l5, e_l6, e_l7, e_l8, e_l9, e_l10, e_l12, e_l13, e_l20, e_l31, e_l32, e_l45, e_l48, e_l50, e_l57, e_l58, e_l59, e_l64, e_l70, e_l100, e_l106, e_l127, e_l138, e_l554, e_l799, e_l804, e_l1000, e_l2000, e_l2412, e_l100000, e_m1, nI_add, ni_mul, ni_sub, nI_clamp, e_ltT, e_ltF, e_leT, e_leF, e_eqT, e_eqF, e_mE, e_Em, e_mlt, e_mle, e_ltm, e_lem, e_gz, e_gt, e_bs, ite_self, e_el, e_er, tq_get, tq_set, tq_inc, tb_get_neg, tb_set_neg, and_true, true_and, and_false, false_and, not_false_eq_true, not_true_eq_false] <;> rfl
        have x2 : sX9_get (lgv f o' p 49).2.2.1 (nI c) (nI 0) = some m1 := by
          simp (disch := omega) only [lgv, b1, ↓reduceIte, e_lt, e_bd, e_grd, e_clamp, e_l0, e_l1, e_l2, e_l3, e_l4, e_l5, e_l6, e_l7, e_l8, e_l9, e_l10, e_l12, e_l13, e_l20, e_l31, e_l32, e_l45, e_l48, e_l50, e_l57, e_l58, e_l59, e_l64, e_l70, e_l100, e_l106, e_l127, e_l138, e_l554, e_l799, e_l804, e_l1000, e_l2000, e_l2412, e_l100000, e_m1, nI_add, ni_mul, ni_sub, nI_clamp, e_ltT, e_ltF, e_leT, e_leF, e_eqT, e_eqF, e_mE, e_Em, e_mlt, e_mle, e_ltm, e_lem, e_gz, e_gt, e_bs, ite_self, e_el, e_er, tq_get, tq_set, tq_inc, tb_get_neg, tb_set_neg, and_true, true_and, and_false, false_and, not_false_eq_true, not_true_eq_false] <;> rfl
        have x3 : sX2_dropIfFull N (lgv f o' p 49) = some (lgv f o' p 49) := by simp (disch := omega) only [lgv, sX2_dropIfFull, ↓reduceIte, e_lt, e_bd, e_grd, e_clamp, e_l0, e_l1, e_l2, e_l3, e_l4, e_l5, e_l6, e_l7, e_l8, e_l9, e_l10, e_l12, e_l13, e_l20, e_l31, e_l32, e_l45, e_l48, e_l50, e_l57, e_l58, e_l59, e_l64, e_l70, e_l100, e_l106, e_l127, e_l138, e_l554, e_l799, e_l804, e_l1000, e_l2000, e_l2412, e_l100000, e_m1, nI_add, ni_mul, ni_sub, nI_clamp, e_ltT, e_ltF, e_leT, e_leF, e_eqT, e_eqF, e_mE, e_Em, e_mlt, e_mle, e_ltm, e_lem, e_gz, e_gt, e_bs, ite_self, e_el, e_er, tq_get, tq_set, tq_inc, tb_get_neg, tb_set_neg, and_true, true_and, and_false, false_and, not_false_eq_true, not_true_eq_false] <;> rfl
        have q1 := q1
        simp only [sX2_noteHit] at q1 ⊢
        rw [show (0 : Int32) = nI 0 from rfl, x1]
        rw [show (0 : Int32) = nI 0 from rfl, x2] at q1
        rw [show (-1 : Int32) = m1 from rfl] at q1 ⊢
        simp only [Option.bind_some, ↓reduceIte, x3, r1] at q1 ⊢
        exact q1
      · have r9 : g1 9 = nI 49 := r3.2.1
        have q2 := q2
        simp only [sX11_hits, hm2] at q2
        simp only [sX11_hits, hm]
        rw [show (-1 : Int32) = m1 from rfl] at q2 ⊢
        simp only [Option.bind_some, ↓reduceIte, r2, e_k9, h2, r9] at q2 ⊢
        have n1 : ¬ nI 49 = (50 : Int32) := by decide
        have n2 : nI 50 = (50 : Int32) := rfl
        rw [if_neg n1] at q2
        rw [if_pos n2, grd_pos (by rw [hz]; exact vp_in_nI (n := 9) (by decide) (by decide))]
        rw [grd_pos (by rw [hz]; exact vp_in_nI (n := 9) (by decide) (by decide))] at q2
        exact q2
  · obtain ⟨f', g', q1, q2, q3, q4⟩ := ev_hit1 hz hN hc h0 hl h b1 b2 b3 b4 b5
    exact ⟨f', o, p, n, od, g', q1, q2, q3, fun k hk => q4 k (by omega)⟩
