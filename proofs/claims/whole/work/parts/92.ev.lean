/-! events -/
def RE (f o p : Nat → Int32) (n : Nat) (od : Nat → Nat) (g : Nat → Int32) (T : Nat) : Prop := n ≤ 50 ∧ g 9 = nI n ∧ (∀ i, i < 50 → od i < 50 ∧ o i = nI (od i)) ∧ (∀ i j, i < j → j < 50 → od i ≠ od j) ∧ (∀ e j, e < n → j < 5 → f (od e * 5 + j) = EV g e j) ∧ (∀ e, e < n → evOk g T e) ∧ (∀ c, c < 32 → (p (c * 1 + 0) = m1 ∧ ∀ e, e < n → EV g e 4 = nI 1 → EV g e 0 ≠ nI c) ∨ ∃ e, e < n ∧ p (c * 1 + 0) = nI (od e) ∧ EV g e 0 = nI c ∧ EV g e 4 = nI 1 ∧ ∀ e', e' < n → EV g e' 4 = nI 1 → EV g e' 0 = nI c → e' = e)
def lgv (f o p : Nat → Int32) (n : Nat) : V2 := ((nI 50, nI 5, 50 * 5, f), (50, o), (nI 32, nI 1, 32 * 1, p), nI n)
theorem Rev.ex {v : V2} {g : Nat → Int32} {T : Nat} (h : Rev v g T) : ∃ f o p n od, v = lgv f o p n ∧ RE f o p n od g T := by
  obtain ⟨a1, a2, a3, n, od, h1, h2, h3, h4⟩ := h
  obtain ⟨t1, ⟨sz, o⟩, t3, ct⟩ := v
  obtain ⟨f, hf⟩ := a1.ex
  obtain ⟨p, hp⟩ := a3.ex
  dsimp only at a2 hf hp h2 h4
  subst a2; subst hf; subst hp; subst h2
  exact ⟨f, o, p, n, od, rfl, h1, h3, h4⟩
theorem RE.rev {f o p : Nat → Int32} {n : Nat} {od : Nat → Nat} {g : Nat → Int32} {T : Nat} (h : RE f o p n od g T) : Rev (lgv f o p n) g T := by
  obtain ⟨h1, h3, h4⟩ := h
  exact ⟨TB.mk 50 5 f, rfl, TB.mk 32 1 p, n, od, h1, rfl, h3, h4⟩
theorem EV_eq {g : Nat → Int32} {e e' j j' : Nat} {x : Int32} (h : e' = e) (h2 : j' = j) : EV (upd g (554 + 5 * e + j) x) e' j' = x := by
  subst h; subst h2
  exact e_eq rfl
theorem EV_ne {g : Nat → Int32} {e e' j j' : Nat} {x : Int32} (hj : j < 5) (hj' : j' < 5) (h : ¬ (e' = e ∧ j' = j)) : EV (upd g (554 + 5 * e + j) x) e' j' = EV g e' j' := e_ne (by omega)
theorem EV_9 {g : Nat → Int32} {e j : Nat} {x : Int32} : EV (upd g 9 x) e j = EV g e j := e_ne (by omega)
theorem RE.inj {f o p : Nat → Int32} {n : Nat} {od : Nat → Nat} {g : Nat → Int32} {T : Nat} (h : RE f o p n od g T) {i j : Nat} (hi : i < 50) (hj : j < 50) (e : od i = od j) : i = j := by
  obtain ⟨-, -, -, h4, -⟩ := h
  rcases Nat.lt_trichotomy i j with q | q | q
  · exact absurd e (h4 i j q hj)
  · exact q
  · exact absurd e.symm (h4 j i q hi)
/-! the reference's search for an open event -/
theorem q_open0 {w : V11} {c n : Nat} (hz : w.1.1 = 804) (h9 : w.1.2 9 = nI n) (hn : n ≤ 50) : ∀ (d i N : Nat), i + d = n → d < N → (∀ e, e < n → EV w.1.2 e 4 = nI 1 → EV w.1.2 e 0 ≠ nI c) → qX11_openIn_2 w (nI c) N (nI i) = some (.inr (nI n)) := by
  intro d
  induction d with
  | zero =>
    intro i N hi hN _
    obtain ⟨N, rfl⟩ : ∃ N', N = N' + 1 := ⟨N - 1, by omega⟩
    have : i = n := by omega
    subst this
    rw [qX11_openIn_2]
    simp (disch := omega) only [hz, h9, ↓reduceIte, e_lt, e_bd, e_grd, e_clamp, e_l0, e_l1, e_l2, e_l3, e_l4, e_l5, e_l6, e_l7, e_l8, e_l9, e_l10, e_l12, e_l13, e_l20, e_l31, e_l32, e_l45, e_l48, e_l50, e_l57, e_l58, e_l59, e_l64, e_l70, e_l100, e_l106, e_l127, e_l138, e_l554, e_l799, e_l804, e_l1000, e_l2000, e_l2412, e_l100000, e_m1, nI_add, ni_mul, ni_sub, nI_clamp, e_ltT, e_ltF, e_leT, e_leF, e_eqT, e_eqF, e_mE, e_Em, e_mlt, e_mle, e_ltm, e_lem, e_gz, e_gt, e_bs, ite_self, e_el, e_er, tq_get, tq_set, tq_inc, tb_get_neg, tb_set_neg, and_true, true_and, and_false, false_and, not_false_eq_true, not_true_eq_false] <;> rfl
  | succ d ih =>
    intro i N hi hN hno
    obtain ⟨N, rfl⟩ : ∃ N', N = N' + 1 := ⟨N - 1, by omega⟩
    have hi2 := ih (i + 1) N (by omega) (by omega) hno
    rw [qX11_openIn_2]
    by_cases q1 : w.1.2 (554 + 5 * i + 0) = nI c
    · have q2 : ¬ w.1.2 (554 + 5 * i + 4) = nI 1 := fun q => hno i (by omega) q q1
      simp (disch := omega) only [hz, h9, sX11_eventAt, q1, q2, hi2, ↓reduceIte, e_lt, e_bd, e_grd, e_clamp, e_l0, e_l1, e_l2, e_l3, e_l4, e_l5, e_l6, e_l7, e_l8, e_l9, e_l10, e_l12, e_l13, e_l20, e_l31, e_l32, e_l45, e_l48, e_l50, e_l57, e_l58, e_l59, e_l64, e_l70, e_l100, e_l106, e_l127, e_l138, e_l554, e_l799, e_l804, e_l1000, e_l2000, e_l2412, e_l100000, e_m1, nI_add, ni_mul, ni_sub, nI_clamp, e_ltT, e_ltF, e_leT, e_leF, e_eqT, e_eqF, e_mE, e_Em, e_mlt, e_mle, e_ltm, e_lem, e_gz, e_gt, e_bs, ite_self, e_el, e_er, tq_get, tq_set, tq_inc, tb_get_neg, tb_set_neg, and_true, true_and, and_false, false_and, not_false_eq_true, not_true_eq_false] <;> rfl
    · simp (disch := omega) only [hz, h9, sX11_eventAt, q1, hi2, ↓reduceIte, e_lt, e_bd, e_grd, e_clamp, e_l0, e_l1, e_l2, e_l3, e_l4, e_l5, e_l6, e_l7, e_l8, e_l9, e_l10, e_l12, e_l13, e_l20, e_l31, e_l32, e_l45, e_l48, e_l50, e_l57, e_l58, e_l59, e_l64, e_l70, e_l100, e_l106, e_l127, e_l138, e_l554, e_l799, e_l804, e_l1000, e_l2000, e_l2412, e_l100000, e_m1, nI_add, ni_mul, ni_sub, nI_clamp, e_ltT, e_ltF, e_leT, e_leF, e_eqT, e_eqF, e_mE, e_Em, e_mlt, e_mle, e_ltm, e_lem, e_gz, e_gt, e_bs, ite_self, e_el, e_er, tq_get, tq_set, tq_inc, tb_get_neg, tb_set_neg, and_true, true_and, and_false, false_and, not_false_eq_true, not_true_eq_false] <;> rfl
theorem q_open1 {w : V11} {c n e : Nat} (hz : w.1.1 = 804) (h9 : w.1.2 9 = nI n) (hn : n ≤ 50) (he : e < n) (e0 : EV w.1.2 e 0 = nI c) (e4 : EV w.1.2 e 4 = nI 1) (hu : ∀ e', e' < n → EV w.1.2 e' 4 = nI 1 → EV w.1.2 e' 0 = nI c → e' = e) : ∀ (d i N : Nat), i + d = e → d < N → qX11_openIn_2 w (nI c) N (nI i) = some (.inl (nI e)) := by
  intro d
  induction d with
  | zero =>
    intro i N hi hN
    obtain ⟨N, rfl⟩ : ∃ N', N = N' + 1 := ⟨N - 1, by omega⟩
    have : i = e := by omega
    subst this
    have e0 : w.1.2 (554 + 5 * i + 0) = nI c := e0
    have e4 : w.1.2 (554 + 5 * i + 4) = nI 1 := e4
    rw [qX11_openIn_2]
    simp (disch := omega) only [hz, h9, sX11_eventAt, e0, e4, ↓reduceIte, e_lt, e_bd, e_grd, e_clamp, e_l0, e_l1, e_l2, e_l3, e_l4, e_l5, e_l6, e_l7, e_l8, e_l9, e_l10, e_l12, e_l13, e_l20, e_l31, e_l32, e_l45, e_l48, e_l50, e_l57, e_l58, e_l59, e_l64, e_l70, e_l100, e_l106, e_l127, e_l138, e_l554, e_l799, e_l804, e_l1000, e_l2000, e_l2412, e_l100000, e_m1, nI_add, ni_mul, ni_sub, nI_clamp, e_ltT, e_ltF, e_leT, e_leF, e_eqT, e_eqF, e_mE, e_Em, e_mlt, e_mle, e_ltm, e_lem, e_gz, e_gt, e_bs, ite_self, e_el, e_er, tq_get, tq_set, tq_inc, tb_get_neg, tb_set_neg, and_true, true_and, and_false, false_and, not_false_eq_true, not_true_eq_false] <;> rfl
  | succ d ih =>
    intro i N hi hN
    obtain ⟨N, rfl⟩ : ∃ N', N = N' + 1 := ⟨N - 1, by omega⟩
    have hi2 := ih (i + 1) N (by omega) (by omega)
    rw [qX11_openIn_2]
    by_cases q1 : w.1.2 (554 + 5 * i + 0) = nI c
    · have q2 : ¬ w.1.2 (554 + 5 * i + 4) = nI 1 := fun q => by
        have := hu i (by omega) q q1
        omega
      simp (disch := omega) only [hz, h9, sX11_eventAt, q1, q2, hi2, ↓reduceIte, e_lt, e_bd, e_grd, e_clamp, e_l0, e_l1, e_l2, e_l3, e_l4, e_l5, e_l6, e_l7, e_l8, e_l9, e_l10, e_l12, e_l13, e_l20, e_l31, e_l32, e_l45, e_l48, e_l50, e_l57, e_l58, e_l59, e_l64, e_l70, e_l100, e_l106, e_l127, e_l138, e_l554, e_l799, e_l804, e_l1000, e_l2000, e_l2412, e_l100000, e_m1, nI_add, ni_mul, ni_sub, nI_clamp, e_ltT, e_ltF, e_leT, e_leF, e_eqT, e_eqF, e_mE, e_Em, e_mlt, e_mle, e_ltm, e_lem, e_gz, e_gt, e_bs, ite_self, e_el, e_er, tq_get, tq_set, tq_inc, tb_get_neg, tb_set_neg, and_true, true_and, and_false, false_and, not_false_eq_true, not_true_eq_false] <;> rfl
    · simp (disch := omega) only [hz, h9, sX11_eventAt, q1, hi2, ↓reduceIte, e_lt, e_bd, e_grd, e_clamp, e_l0, e_l1, e_l2, e_l3, e_l4, e_l5, e_l6, e_l7, e_l8, e_l9, e_l10, e_l12, e_l13, e_l20, e_l31, e_l32, e_l45, e_l48, e_l50, e_l57, e_l58, e_l59, e_l64, e_l70, e_l100, e_l106, e_l127, e_l138, e_l554, e_l799, e_l804, e_l1000, e_l2000, e_l2412, e_l100000, e_m1, nI_add, ni_mul, ni_sub, nI_clamp, e_ltT, e_ltF, e_leT, e_leF, e_eqT, e_eqF, e_mE, e_Em, e_mlt, e_mle, e_ltm, e_lem, e_gz, e_gt, e_bs, ite_self, e_el, e_er, tq_get, tq_set, tq_inc, tb_get_neg, tb_set_neg, and_true, true_and, and_false, false_and, not_false_eq_true, not_true_eq_false] <;> rfl
theorem m_open0 {w : V11} {c n N : Nat} (hz : w.1.1 = 804) (h9 : w.1.2 9 = nI n) (hn : n ≤ 50) (hN : 5000 ≤ N) (hno : ∀ e, e < n → EV w.1.2 e 4 = nI 1 → EV w.1.2 e 0 ≠ nI c) : sX11_openIn N w (nI c) = some m1 := by
  have := q_open0 hz h9 hn n 0 N (by omega) (by omega) hno
  simp (disch := omega) only [sX11_openIn, this, ↓reduceIte, e_lt, e_bd, e_grd, e_clamp, e_l0, e_l1, e_l2, e_l3, e_l4, e_l5, e_l6, e_l7, e_l8, e_l9, e_l10, e_l12, e_l13, e_l20, e_l31, e_l32, e_l45, e_l48, e_l50, e_l57, e_l58, e_l59, e_l64, e_l70, e_l100, e_l106, e_l127, e_l138, e_l554, e_l799, e_l804, e_l1000, e_l2000, e_l2412, e_l100000, e_m1, nI_add, ni_mul, ni_sub, nI_clamp, e_ltT, e_ltF, e_leT, e_leF, e_eqT, e_eqF, e_mE, e_Em, e_mlt, e_mle, e_ltm, e_lem, e_gz, e_gt, e_bs, ite_self, e_el, e_er, tq_get, tq_set, tq_inc, tb_get_neg, tb_set_neg, and_true, true_and, and_false, false_and, not_false_eq_true, not_true_eq_false] <;> rfl
theorem m_open1 {w : V11} {c n N e : Nat} (hz : w.1.1 = 804) (h9 : w.1.2 9 = nI n) (hn : n ≤ 50) (hN : 5000 ≤ N) (he : e < n) (e0 : EV w.1.2 e 0 = nI c) (e4 : EV w.1.2 e 4 = nI 1) (hu : ∀ e', e' < n → EV w.1.2 e' 4 = nI 1 → EV w.1.2 e' 0 = nI c → e' = e) : sX11_openIn N w (nI c) = some (nI e) := by
  have := q_open1 hz h9 hn he e0 e4 hu e 0 N (by omega) (by omega)
  simp (disch := omega) only [sX11_openIn, this, ↓reduceIte, e_lt, e_bd, e_grd, e_clamp, e_l0, e_l1, e_l2, e_l3, e_l4, e_l5, e_l6, e_l7, e_l8, e_l9, e_l10, e_l12, e_l13, e_l20, e_l31, e_l32, e_l45, e_l48, e_l50, e_l57, e_l58, e_l59, e_l64, e_l70, e_l100, e_l106, e_l127, e_l138, e_l554, e_l799, e_l804, e_l1000, e_l2000, e_l2412, e_l100000, e_m1, nI_add, ni_mul, ni_sub, nI_clamp, e_ltT, e_ltF, e_leT, e_leF, e_eqT, e_eqF, e_mE, e_Em, e_mlt, e_mle, e_ltm, e_lem, e_gz, e_gt, e_bs, ite_self, e_el, e_er, tq_get, tq_set, tq_inc, tb_get_neg, tb_set_neg, and_true, true_and, and_false, false_and, not_false_eq_true, not_true_eq_false] <;> rfl
/-! a miss -/
theorem ev_miss {f o p : Nat → Int32} {n T c N : Nat} {od : Nat → Nat} {w : V11} (hz : w.1.1 = 804) (hN : 5000 ≤ N) (hc : c < 32) (h : RE f o p n od w.1.2 T) :
    ∃ f' p' g', sX2_noteMiss (lgv f o p n) (nI c) = some (lgv f' o p' n) ∧ ((sX11_openIn N w (nI c)).bind (fun o44 => (if o44 = m1 then some w else ((sX11_eventAt o44 (nI 4)).bind (fun o47 => grd (vp_in o47 w.1.1) (some ((w.1.1, upd w.1.2 o47.toNatClampNeg (nI 0)), w.2))))))) = some ((w.1.1, g'), w.2) ∧ RE f' o p' n od g' T ∧ ∀ k, ¬ (554 ≤ k ∧ k < 804) → g' k = w.1.2 k := by
  obtain ⟨h1, h2, h3, h4, h5, h6, h7⟩ := id h
  rcases h7 c hc with ⟨b1, b2⟩ | ⟨e, b1, b2, b3, b4, b5⟩
  · have hm := m_open0 hz h2 h1 hN b2
    refine ⟨f, upd p (c * 1 + 0) m1, w.1.2, ?_, ?_, ⟨h1, h2, h3, h4, h5, h6, fun c' hc' => ?_⟩, fun k _ => rfl⟩
    · simp (disch := omega) only [lgv, sX2_noteMiss, b1, ↓reduceIte, e_lt, e_bd, e_grd, e_clamp, e_l0, e_l1, e_l2, e_l3, e_l4, e_l5, e_l6, e_l7, e_l8, e_l9, e_l10, e_l12, e_l13, e_l20, e_l31, e_l32, e_l45, e_l48, e_l50, e_l57, e_l58, e_l59, e_l64, e_l70, e_l100, e_l106, e_l127, e_l138, e_l554, e_l799, e_l804, e_l1000, e_l2000, e_l2412, e_l100000, e_m1, nI_add, ni_mul, ni_sub, nI_clamp, e_ltT, e_ltF, e_leT, e_leF, e_eqT, e_eqF, e_mE, e_Em, e_mlt, e_mle, e_ltm, e_lem, e_gz, e_gt, e_bs, ite_self, e_el, e_er, tq_get, tq_set, tq_inc, tb_get_neg, tb_set_neg, and_true, true_and, and_false, false_and, not_false_eq_true, not_true_eq_false] <;> rfl
    · rw [hm]
      rfl
    · by_cases q : c' = c
      · subst q
        exact Or.inl ⟨e_eq rfl, b2⟩
      · rw [e_ne (by omega)]
        exact h7 c' hc'
  · have hm := m_open1 hz h2 h1 hN b1 b3 b4 b5
    obtain ⟨d1, -⟩ := h3 e (by omega)
    refine ⟨upd f (od e * 5 + 4) (nI 0), upd p (c * 1 + 0) m1, upd w.1.2 (554 + 5 * e + 4) (nI 0), ?_, ?_, ⟨h1, ?_, h3, h4, fun e' j he' hj => ?_, fun e' he' => ?_, fun c' hc' => ?_⟩, fun k hk => e_ne (by omega)⟩
    · simp (disch := omega) only [lgv, sX2_noteMiss, b2, ↓reduceIte, e_lt, e_bd, e_grd, e_clamp, e_l0, e_l1, e_l2, e_l3, e_l4, e_l5, e_l6, e_l7, e_l8, e_l9, e_l10, e_l12, e_l13, e_l20, e_l31, e_l32, e_l45, e_l48, e_l50, e_l57, e_l58, e_l59, e_l64, e_l70, e_l100, e_l106, e_l127, e_l138, e_l554, e_l799, e_l804, e_l1000, e_l2000, e_l2412, e_l100000, e_m1, nI_add, ni_mul, ni_sub, nI_clamp, e_ltT, e_ltF, e_leT, e_leF, e_eqT, e_eqF, e_mE, e_Em, e_mlt, e_mle, e_ltm, e_lem, e_gz, e_gt, e_bs, ite_self, e_el, e_er, tq_get, tq_set, tq_inc, tb_get_neg, tb_set_neg, and_true, true_and, and_false, false_and, not_false_eq_true, not_true_eq_false] <;> rfl
    · rw [hm]
      simp (disch := omega) only [sX11_eventAt, hz, ↓reduceIte, e_lt, e_bd, e_grd, e_clamp, e_l0, e_l1, e_l2, e_l3, e_l4, e_l5, e_l6, e_l7, e_l8, e_l9, e_l10, e_l12, e_l13, e_l20, e_l31, e_l32, e_l45, e_l48, e_l50, e_l57, e_l58, e_l59, e_l64, e_l70, e_l100, e_l106, e_l127, e_l138, e_l554, e_l799, e_l804, e_l1000, e_l2000, e_l2412, e_l100000, e_m1, nI_add, ni_mul, ni_sub, nI_clamp, e_ltT, e_ltF, e_leT, e_leF, e_eqT, e_eqF, e_mE, e_Em, e_mlt, e_mle, e_ltm, e_lem, e_gz, e_gt, e_bs, ite_self, e_el, e_er, tq_get, tq_set, tq_inc, tb_get_neg, tb_set_neg, and_true, true_and, and_false, false_and, not_false_eq_true, not_true_eq_false] <;> rfl
    · rw [e_ne (by omega)]
      exact h2
    · by_cases q : e' = e
      · subst q
        by_cases q2 : j = 4
        · subst q2
          rw [e_eq rfl, EV_eq rfl rfl]
        · rw [e_ne (by omega), EV_ne (by omega) hj (by omega)]
          exact h5 e' j he' hj
      · have : od e' ≠ od e := fun z => q (h.inj (by omega) (by omega) z)
        rw [e_ne (by omega), EV_ne (by omega) hj (by omega)]
        exact h5 e' j he' hj
    · obtain ⟨c1, c2, c3, c4, c5⟩ := h6 e' he'
      unfold evOk
      rw [EV_ne (by omega) (by omega) (by omega), EV_ne (by omega) (by omega) (by omega), EV_ne (by omega) (by omega) (by omega), EV_ne (by omega) (by omega) (by omega)]
      refine ⟨c1, c2, c3, c4, ?_⟩
      by_cases q : e' = e
      · exact Or.inl (EV_eq q rfl)
      · rw [EV_ne (by omega) (by omega) (by omega)]
        exact c5
    · have hx : ∀ e', EV (upd w.1.2 (554 + 5 * e + 4) (nI 0)) e' 4 = nI 1 → e' ≠ e ∧ EV w.1.2 e' 4 = nI 1 := by
        intro e' z
        by_cases q : e' = e
        · rw [EV_eq q rfl] at z
          exact absurd z (by decide)
        · rw [EV_ne (by omega) (by omega) (by omega)] at z
          exact ⟨q, z⟩
      by_cases q : c' = c
      · subst q
        refine Or.inl ⟨e_eq rfl, fun e' he' z => ?_⟩
        rw [EV_ne (by omega) (by omega) (by omega)]
        intro z2
        exact (hx e' z).1 (b5 e' he' (hx e' z).2 z2)
      · rw [e_ne (by omega)]
        rcases h7 c' hc' with ⟨g1, g2⟩ | ⟨e2, g1, g2, g3, g4, g5⟩
        · refine Or.inl ⟨g1, fun e' he' z => ?_⟩
          rw [EV_ne (by omega) (by omega) (by omega)]
          exact g2 e' he' (hx e' z).2
        · have : e2 ≠ e := fun z => by
            rw [z, b3] at g3
            exact q ((nI_eq (by omega) (by omega)).mp g3.symm)
          refine Or.inr ⟨e2, g1, g2, ?_, ?_, fun e' he' z z2 => ?_⟩
          · rw [EV_ne (by omega) (by omega) (by omega)]; exact g3
          · rw [EV_ne (by omega) (by omega) (by omega)]; exact g4
          · rw [EV_ne (by omega) (by omega) (by omega)] at z2
            exact g5 e' he' (hx e' z).2 z2
