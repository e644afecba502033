/-! the digest -/
def hf (u : Nat → Int32) (h : Int64) : Nat → Int64
  | 0 => h
  | k + 1 => 31 * hf u h k + (u k).toInt64
theorem hf_cg {u u' : Nat → Int32} {h : Int64} : ∀ {m : Nat}, (∀ k, k < m → u k = u' k) → hf u h m = hf u' h m
  | 0, _ => rfl
  | m + 1, e => by
    unfold hf
    rw [hf_cg (fun k hk => e k (by omega)), e m (by omega)]
theorem hf_add (u : Nat → Int32) (h : Int64) (a : Nat) : ∀ b, hf u h (a + b) = hf (fun j => u (a + j)) (hf u h a) b
  | 0 => rfl
  | b + 1 => by
    show 31 * hf u h (a + b) + (u (a + b)).toInt64 = _
    rw [hf_add u h a b]
    rfl
theorem c_mix (h : Int64) (x : Int32) : sX10_mix h x = some (31 * h + x.toInt64) := rfl
theorem q_row {R C r : Nat} {f : Nat → Int32} {h : Int64} (hr : r < R) (hb : R * C < 2 ^ 31) (hC : 0 < C) (hC2 : C < 2 ^ 31) : ∀ (d j M : Nat), j + d = C → d < M → qX9_mixRow_6 (nI R, nI C, R * C, f) (nI r) M (hf (fun j => f (r * C + j)) h j) (nI j) = some (hf (fun j => f (r * C + j)) h C, nI C) := by
  intro d
  induction d with
  | zero =>
    intro j M hj hM
    obtain ⟨M, rfl⟩ : ∃ N', M = N' + 1 := ⟨M - 1, by omega⟩
    have : j = C := by omega
    subst this
    rw [qX9_mixRow_6]
    simp (disch := omega) only [↓reduceIte, e_lt, e_bd, e_grd, e_clamp, e_l0, e_l1, e_l2, e_l3, e_l4, e_l5, e_l6, e_l7, e_l8, e_l9, e_l10, e_l12, e_l13, e_l20, e_l31, e_l32, e_l45, e_l48, e_l50, e_l57, e_l58, e_l59, e_l64, e_l70, e_l100, e_l106, e_l127, e_l138, e_l554, e_l799, e_l804, e_l1000, e_l2000, e_l2412, e_l100000, e_m1, nI_add, ni_mul, ni_sub, nI_clamp, e_ltT, e_ltF, e_leT, e_leF, e_eqT, e_eqF, e_mE, e_Em, e_mlt, e_mle, e_ltm, e_lem, e_gz, e_gt, e_bs, ite_self, e_el, e_er, tq_get, tq_set, tq_inc, tb_get_neg, tb_set_neg, and_true, true_and, and_false, false_and, not_false_eq_true, not_true_eq_false] <;> rfl
  | succ d ih =>
    intro j M hj hM
    obtain ⟨M, rfl⟩ : ∃ N', M = N' + 1 := ⟨M - 1, by omega⟩
    have hi := ih (j + 1) M (by omega) (by omega)
    have e : hf (fun j => f (r * C + j)) h (j + 1) = 31 * hf (fun j => f (r * C + j)) h j + (f (r * C + j)).toInt64 := rfl
    rw [e] at hi
    rw [qX9_mixRow_6]
    simp (disch := omega) only [c_mix, hi, ↓reduceIte, e_lt, e_bd, e_grd, e_clamp, e_l0, e_l1, e_l2, e_l3, e_l4, e_l5, e_l6, e_l7, e_l8, e_l9, e_l10, e_l12, e_l13, e_l20, e_l31, e_l32, e_l45, e_l48, e_l50, e_l57, e_l58, e_l59, e_l64, e_l70, e_l100, e_l106, e_l127, e_l138, e_l554, e_l799, e_l804, e_l1000, e_l2000, e_l2412, e_l100000, e_m1, nI_add, ni_mul, ni_sub, nI_clamp, e_ltT, e_ltF, e_leT, e_leF, e_eqT, e_eqF, e_mE, e_Em, e_mlt, e_mle, e_ltm, e_lem, e_gz, e_gt, e_bs, ite_self, e_el, e_er, tq_get, tq_set, tq_inc, tb_get_neg, tb_set_neg, and_true, true_and, and_false, false_and, not_false_eq_true, not_true_eq_false] <;> rfl
theorem c_row {N R C r : Nat} {f : Nat → Int32} {h : Int64} (hr : r < R) (hb : R * C < 2 ^ 31) (hC : 0 < C) (hN : C < N) (hC2 : C < 2 ^ 31) : sX9_mixRow N (nI R, nI C, R * C, f) h (nI r) = some (hf (fun j => f (r * C + j)) h C) := by
  have := q_row (f := f) (h := h) hr hb hC hC2 C 0 N (by omega) (by omega)
  have this : qX9_mixRow_6 (nI R, nI C, R * C, f) (nI r) N h (nI 0) = _ := this
  simp (disch := omega) only [sX9_mixRow, this, ↓reduceIte, e_lt, e_bd, e_grd, e_clamp, e_l0, e_l1, e_l2, e_l3, e_l4, e_l5, e_l6, e_l7, e_l8, e_l9, e_l10, e_l12, e_l13, e_l20, e_l31, e_l32, e_l45, e_l48, e_l50, e_l57, e_l58, e_l59, e_l64, e_l70, e_l100, e_l106, e_l127, e_l138, e_l554, e_l799, e_l804, e_l1000, e_l2000, e_l2412, e_l100000, e_m1, nI_add, ni_mul, ni_sub, nI_clamp, e_ltT, e_ltF, e_leT, e_leF, e_eqT, e_eqF, e_mE, e_Em, e_mlt, e_mle, e_ltm, e_lem, e_gz, e_gt, e_bs, ite_self, e_el, e_er, tq_get, tq_set, tq_inc, tb_get_neg, tb_set_neg, and_true, true_and, and_false, false_and, not_false_eq_true, not_true_eq_false] <;> rfl
theorem q_rows {N R C n : Nat} {f : Nat → Int32} {h : Int64} (hn : n ≤ R) (hR : R < 2 ^ 31) (hb : R * C < 2 ^ 31) (hC : 0 < C) (hC2 : C < 2 ^ 31) (hN : C < N) : ∀ (d i M : Nat), i + d = n → d < M → qX9_mixRows_6 N (nI R, nI C, R * C, f) (nI n) M (hf f h (i * C)) (nI i) = some (hf f h (n * C), nI n) := by
  intro d
  induction d with
  | zero =>
    intro j M hj hM
    obtain ⟨M, rfl⟩ : ∃ N', M = N' + 1 := ⟨M - 1, by omega⟩
    have : j = n := by omega
    subst this
    rw [qX9_mixRows_6]
    simp (disch := omega) only [↓reduceIte, e_lt, e_bd, e_grd, e_clamp, e_l0, e_l1, e_l2, e_l3, e_l4, e_l5, e_l6, e_l7, e_l8, e_l9, e_l10, e_l12, e_l13, e_l20, e_l31, e_l32, e_l45, e_l48, e_l50, e_l57, e_l58, e_l59, e_l64, e_l70, e_l100, e_l106, e_l127, e_l138, e_l554, e_l799, e_l804, e_l1000, e_l2000, e_l2412, e_l100000, e_m1, nI_add, ni_mul, ni_sub, nI_clamp, e_ltT, e_ltF, e_leT, e_leF, e_eqT, e_eqF, e_mE, e_Em, e_mlt, e_mle, e_ltm, e_lem, e_gz, e_gt, e_bs, ite_self, e_el, e_er, tq_get, tq_set, tq_inc, tb_get_neg, tb_set_neg, and_true, true_and, and_false, false_and, not_false_eq_true, not_true_eq_false] <;> rfl
  | succ d ih =>
    intro j M hj hM
    obtain ⟨M, rfl⟩ : ∃ N', M = N' + 1 := ⟨M - 1, by omega⟩
    have hi := ih (j + 1) M (by omega) (by omega)
    have hr := c_row (N := N) (f := f) (h := hf f h (j * C)) (r := j) (show j < R by omega) hb hC hN hC2
    rw [← hf_add, ← Nat.succ_mul] at hr
    have hr : sX9_mixRow N (nI R, nI C, R * C, f) (hf f h (j * C)) (nI j) = some (hf f h ((j + 1) * C)) := hr
    rw [qX9_mixRows_6]
    simp (disch := omega) only [hr, hi, ↓reduceIte, e_lt, e_bd, e_grd, e_clamp, e_l0, e_l1, e_l2, e_l3, e_l4, e_l5, e_l6, e_l7, e_l8, e_l9, e_l10, e_l12, e_l13, e_l20, e_l31, e_l32, e_l45, e_l48, e_l50, e_l57, e_l58, e_l59, e_l64, e_l70, e_l100, e_l106, e_l127, e_l138, e_l554, e_l799, e_l804, e_l1000, e_l2000, e_l2412, e_l100000, e_m1, nI_add, ni_mul, ni_sub, nI_clamp, e_ltT, e_ltF, e_leT, e_leF, e_eqT, e_eqF, e_mE, e_Em, e_mlt, e_mle, e_ltm, e_lem, e_gz, e_gt, e_bs, ite_self, e_el, e_er, tq_get, tq_set, tq_inc, tb_get_neg, tb_set_neg, and_true, true_and, and_false, false_and, not_false_eq_true, not_true_eq_false] <;> rfl
theorem c_rows {N R C n : Nat} {f : Nat → Int32} {h : Int64} (hn : n ≤ R) (hR : R < 2 ^ 31) (hb : R * C < 2 ^ 31) (hC : 0 < C) (hC2 : C < 2 ^ 31) (hN : C < N) (hN2 : n < N) : sX9_mixRows N (nI R, nI C, R * C, f) h (nI n) = some (hf f h (n * C)) := by
  have := q_rows (f := f) (h := h) hn hR hb hC hC2 hN n 0 N (by omega) (by omega)
  rw [Nat.zero_mul] at this
  have this : qX9_mixRows_6 N (nI R, nI C, R * C, f) (nI n) N h (nI 0) = _ := this
  simp (disch := omega) only [sX9_mixRows, this, ↓reduceIte, e_lt, e_bd, e_grd, e_clamp, e_l0, e_l1, e_l2, e_l3, e_l4, e_l5, e_l6, e_l7, e_l8, e_l9, e_l10, e_l12, e_l13, e_l20, e_l31, e_l32, e_l45, e_l48, e_l50, e_l57, e_l58, e_l59, e_l64, e_l70, e_l100, e_l106, e_l127, e_l138, e_l554, e_l799, e_l804, e_l1000, e_l2000, e_l2412, e_l100000, e_m1, nI_add, ni_mul, ni_sub, nI_clamp, e_ltT, e_ltF, e_leT, e_leF, e_eqT, e_eqF, e_mE, e_Em, e_mlt, e_mle, e_ltm, e_lem, e_gz, e_gt, e_bs, ite_self, e_el, e_er, tq_get, tq_set, tq_inc, tb_get_neg, tb_set_neg, and_true, true_and, and_false, false_and, not_false_eq_true, not_true_eq_false] <;> rfl
theorem q_sums {w : V11} {a m : Nat} {h : Int64} (hz : w.1.1 = 804) (ha : a + m ≤ 804) : ∀ (d k M : Nat), k + d = m → d < M → qX11_sums_6 w (nI a) (nI m) M (hf (fun k => w.1.2 (a + k)) h k) (nI k) = some (hf (fun k => w.1.2 (a + k)) h m, nI m) := by
  intro d
  induction d with
  | zero =>
    intro j M hj hM
    obtain ⟨M, rfl⟩ : ∃ N', M = N' + 1 := ⟨M - 1, by omega⟩
    have : j = m := by omega
    subst this
    rw [qX11_sums_6]
    simp (disch := omega) only [↓reduceIte, e_lt, e_bd, e_grd, e_clamp, e_l0, e_l1, e_l2, e_l3, e_l4, e_l5, e_l6, e_l7, e_l8, e_l9, e_l10, e_l12, e_l13, e_l20, e_l31, e_l32, e_l45, e_l48, e_l50, e_l57, e_l58, e_l59, e_l64, e_l70, e_l100, e_l106, e_l127, e_l138, e_l554, e_l799, e_l804, e_l1000, e_l2000, e_l2412, e_l100000, e_m1, nI_add, ni_mul, ni_sub, nI_clamp, e_ltT, e_ltF, e_leT, e_leF, e_eqT, e_eqF, e_mE, e_Em, e_mlt, e_mle, e_ltm, e_lem, e_gz, e_gt, e_bs, ite_self, e_el, e_er, tq_get, tq_set, tq_inc, tb_get_neg, tb_set_neg, and_true, true_and, and_false, false_and, not_false_eq_true, not_true_eq_false] <;> rfl
  | succ d ih =>
    intro j M hj hM
    obtain ⟨M, rfl⟩ : ∃ N', M = N' + 1 := ⟨M - 1, by omega⟩
    have hi := ih (j + 1) M (by omega) (by omega)
    have e : hf (fun k => w.1.2 (a + k)) h (j + 1) = 31 * hf (fun k => w.1.2 (a + k)) h j + (w.1.2 (a + j)).toInt64 := rfl
    rw [e] at hi
    rw [qX11_sums_6]
    simp (disch := omega) only [hz, hi, ↓reduceIte, e_lt, e_bd, e_grd, e_clamp, e_l0, e_l1, e_l2, e_l3, e_l4, e_l5, e_l6, e_l7, e_l8, e_l9, e_l10, e_l12, e_l13, e_l20, e_l31, e_l32, e_l45, e_l48, e_l50, e_l57, e_l58, e_l59, e_l64, e_l70, e_l100, e_l106, e_l127, e_l138, e_l554, e_l799, e_l804, e_l1000, e_l2000, e_l2412, e_l100000, e_m1, nI_add, ni_mul, ni_sub, nI_clamp, e_ltT, e_ltF, e_leT, e_leF, e_eqT, e_eqF, e_mE, e_Em, e_mlt, e_mle, e_ltm, e_lem, e_gz, e_gt, e_bs, ite_self, e_el, e_er, tq_get, tq_set, tq_inc, tb_get_neg, tb_set_neg, and_true, true_and, and_false, false_and, not_false_eq_true, not_true_eq_false] <;> rfl
theorem m_sums {N a m : Nat} {w : V11} {h : Int64} (hz : w.1.1 = 804) (ha : a + m ≤ 804) (hN : m < N) : sX11_sums N w h (nI a) (nI m) = some (hf (fun k => w.1.2 (a + k)) h m) := by
  have := q_sums (h := h) hz ha m 0 N (by omega) (by omega)
  have this : qX11_sums_6 w (nI a) (nI m) N h (nI 0) = _ := this
  simp (disch := omega) only [sX11_sums, this, ↓reduceIte, e_lt, e_bd, e_grd, e_clamp, e_l0, e_l1, e_l2, e_l3, e_l4, e_l5, e_l6, e_l7, e_l8, e_l9, e_l10, e_l12, e_l13, e_l20, e_l31, e_l32, e_l45, e_l48, e_l50, e_l57, e_l58, e_l59, e_l64, e_l70, e_l100, e_l106, e_l127, e_l138, e_l554, e_l799, e_l804, e_l1000, e_l2000, e_l2412, e_l100000, e_m1, nI_add, ni_mul, ni_sub, nI_clamp, e_ltT, e_ltF, e_leT, e_leF, e_eqT, e_eqF, e_mE, e_Em, e_mlt, e_mle, e_ltm, e_lem, e_gz, e_gt, e_bs, ite_self, e_el, e_er, tq_get, tq_set, tq_inc, tb_get_neg, tb_set_neg, and_true, true_and, and_false, false_and, not_false_eq_true, not_true_eq_false] <;> rfl
/-- the channels -/
theorem dg_chan {N t : Nat} {v : V1} {w : V11} (hN : 5000 ≤ N) (hz : w.1.1 = 804) (ht : t < 2 ^ 30) (hD : Rdet v w.1.2 t) : ∀ (d c : Nat) (h : Int64), c + d = 32 → ∃ x, (∀ M, d < M → qX1_mixChannels_5 N v M h (nI c) = some (x, nI 32)) ∧ ∀ M, d < M → qX11_digest_83 N w M h (nI c) = some (x, nI 32) := by
  obtain ⟨f1, f2, f3, hv, hR⟩ := hD.ex
  intro d
  induction d with
  | zero =>
    intro c h hc
    have : c = 32 := by omega
    subst this
    refine ⟨h, fun M hM => ?_, fun M hM => ?_⟩
    · obtain ⟨M, rfl⟩ : ∃ N', M = N' + 1 := ⟨M - 1, by omega⟩
      rw [qX1_mixChannels_5]
      simp (disch := omega) only [↓reduceIte, e_lt, e_bd, e_grd, e_clamp, e_l0, e_l1, e_l2, e_l3, e_l4, e_l5, e_l6, e_l7, e_l8, e_l9, e_l10, e_l12, e_l13, e_l20, e_l31, e_l32, e_l45, e_l48, e_l50, e_l57, e_l58, e_l59, e_l64, e_l70, e_l100, e_l106, e_l127, e_l138, e_l554, e_l799, e_l804, e_l1000, e_l2000, e_l2412, e_l100000, e_m1, nI_add, ni_mul, ni_sub, nI_clamp, e_ltT, e_ltF, e_leT, e_leF, e_eqT, e_eqF, e_mE, e_Em, e_mlt, e_mle, e_ltm, e_lem, e_gz, e_gt, e_bs, ite_self, e_el, e_er, tq_get, tq_set, tq_inc, tb_get_neg, tb_set_neg, and_true, true_and, and_false, false_and, not_false_eq_true, not_true_eq_false] <;> rfl
    · obtain ⟨M, rfl⟩ : ∃ N', M = N' + 1 := ⟨M - 1, by omega⟩
      rw [qX11_digest_83]
      simp (disch := omega) only [↓reduceIte, e_lt, e_bd, e_grd, e_clamp, e_l0, e_l1, e_l2, e_l3, e_l4, e_l5, e_l6, e_l7, e_l8, e_l9, e_l10, e_l12, e_l13, e_l20, e_l31, e_l32, e_l45, e_l48, e_l50, e_l57, e_l58, e_l59, e_l64, e_l70, e_l100, e_l106, e_l127, e_l138, e_l554, e_l799, e_l804, e_l1000, e_l2000, e_l2412, e_l100000, e_m1, nI_add, ni_mul, ni_sub, nI_clamp, e_ltT, e_ltF, e_leT, e_leF, e_eqT, e_eqF, e_mE, e_Em, e_mlt, e_mle, e_ltm, e_lem, e_gz, e_gt, e_bs, ite_self, e_el, e_er, tq_get, tq_set, tq_inc, tb_get_neg, tb_set_neg, and_true, true_and, and_false, false_and, not_false_eq_true, not_true_eq_false] <;> rfl
  | succ d ih =>
    intro c h hc
    obtain ⟨x, b1, b2⟩ := av_both (w := (w.1, w.2.1, w.2.2.1, nI 0, w.2.2.2.2.1, w.2.2.2.2.2.1, w.2.2.2.2.2.2.1, w.2.2.2.2.2.2.2.1, w.2.2.2.2.2.2.2.2.1, w.2.2.2.2.2.2.2.2.2.1, w.2.2.2.2.2.2.2.2.2.2.1, w.2.2.2.2.2.2.2.2.2.2.2.1, w.2.2.2.2.2.2.2.2.2.2.2.2.1, w.2.2.2.2.2.2.2.2.2.2.2.2.2)) (c := c) hN hz (by omega) ht hD
    have hmk : sX1_maskOf v (nI c) = some (w.1.2 (106 + c)) := by
      rw [hv, ← hR.1 c (by omega)]
      simp (disch := omega) only [dtv, sX1_maskOf, ↓reduceIte, e_lt, e_bd, e_grd, e_clamp, e_l0, e_l1, e_l2, e_l3, e_l4, e_l5, e_l6, e_l7, e_l8, e_l9, e_l10, e_l12, e_l13, e_l20, e_l31, e_l32, e_l45, e_l48, e_l50, e_l57, e_l58, e_l59, e_l64, e_l70, e_l100, e_l106, e_l127, e_l138, e_l554, e_l799, e_l804, e_l1000, e_l2000, e_l2412, e_l100000, e_m1, nI_add, ni_mul, ni_sub, nI_clamp, e_ltT, e_ltF, e_leT, e_leF, e_eqT, e_eqF, e_mE, e_Em, e_mlt, e_mle, e_ltm, e_lem, e_gz, e_gt, e_bs, ite_self, e_el, e_er, tq_get, tq_set, tq_inc, tb_get_neg, tb_set_neg, and_true, true_and, and_false, false_and, not_false_eq_true, not_true_eq_false] <;> rfl
    have hrow : ∀ h, sX9_mixRow N v.1 h (nI c) = some (hf (fun k => w.1.2 (138 + 13 * c + k)) h 4) := by
      intro h
      rw [hv]
      refine (c_row (f := f1) (show c < 32 by omega) (by decide) (by decide) (by omega) (by decide)).trans ?_
      exact congrArg some (hf_cg (fun k hk => hR.2.1 c k (by omega) hk))
    have hsm : ∀ h, sX11_sums N (w.1, w.2.1, w.2.2.1, nI 0, w.2.2.2.2.1, w.2.2.2.2.2.1, w.2.2.2.2.2.2.1, w.2.2.2.2.2.2.2.1, w.2.2.2.2.2.2.2.2.1, w.2.2.2.2.2.2.2.2.2.1, w.2.2.2.2.2.2.2.2.2.2.1, w.2.2.2.2.2.2.2.2.2.2.2.1, w.2.2.2.2.2.2.2.2.2.2.2.2.1, w.2.2.2.2.2.2.2.2.2.2.2.2.2) h (nI (138 + 13 * c)) (nI 4) = some (hf (fun k => w.1.2 (138 + 13 * c + k)) h 4) := fun h => m_sums hz (by omega) (by omega)
    obtain ⟨y, e1, e2⟩ := ih (c + 1) (31 * hf (fun k => w.1.2 (138 + 13 * c + k)) (31 * h + (w.1.2 (106 + c)).toInt64) 4 + x.toInt64) (by omega)
    refine ⟨y, fun M hM => ?_, fun M hM => ?_⟩
    · obtain ⟨M, rfl⟩ : ∃ N', M = N' + 1 := ⟨M - 1, by omega⟩
      have e1 := e1 M (by omega)
      rw [qX1_mixChannels_5]
      simp (disch := omega) only [hmk, c_mix, hrow, b1, e1, ↓reduceIte, e_lt, e_bd, e_grd, e_clamp, e_l0, e_l1, e_l2, e_l3, e_l4, e_l5, e_l6, e_l7, e_l8, e_l9, e_l10, e_l12, e_l13, e_l20, e_l31, e_l32, e_l45, e_l48, e_l50, e_l57, e_l58, e_l59, e_l64, e_l70, e_l100, e_l106, e_l127, e_l138, e_l554, e_l799, e_l804, e_l1000, e_l2000, e_l2412, e_l100000, e_m1, nI_add, ni_mul, ni_sub, nI_clamp, e_ltT, e_ltF, e_leT, e_leF, e_eqT, e_eqF, e_mE, e_Em, e_mlt, e_mle, e_ltm, e_lem, e_gz, e_gt, e_bs, ite_self, e_el, e_er, tq_get, tq_set, tq_inc, tb_get_neg, tb_set_neg, and_true, true_and, and_false, false_and, not_false_eq_true, not_true_eq_false] <;> rfl
    · obtain ⟨M, rfl⟩ : ∃ N', M = N' + 1 := ⟨M - 1, by omega⟩
      have e2 := e2 M (by omega)
      rw [qX11_digest_83]
      simp (disch := omega) only [hz, hsm, b2, e2, ↓reduceIte, e_lt, e_bd, e_grd, e_clamp, e_l0, e_l1, e_l2, e_l3, e_l4, e_l5, e_l6, e_l7, e_l8, e_l9, e_l10, e_l12, e_l13, e_l20, e_l31, e_l32, e_l45, e_l48, e_l50, e_l57, e_l58, e_l59, e_l64, e_l70, e_l100, e_l106, e_l127, e_l138, e_l554, e_l799, e_l804, e_l1000, e_l2000, e_l2412, e_l100000, e_m1, nI_add, ni_mul, ni_sub, nI_clamp, e_ltT, e_ltF, e_leT, e_leF, e_eqT, e_eqF, e_mE, e_Em, e_mlt, e_mle, e_ltm, e_lem, e_gz, e_gt, e_bs, ite_self, e_el, e_er, tq_get, tq_set, tq_inc, tb_get_neg, tb_set_neg, and_true, true_and, and_false, false_and, not_false_eq_true, not_true_eq_false] <;> rfl
/-- one event -/
theorem dg_ev1 {N n e : Nat} {v : V10} {w : V11} {y1 y2 y3 F : Nat → Int32} {la : Int32} (hN : 5000 ≤ N) (hz : w.1.1 = 804) (hn : n ≤ 50) (h1 : ∀ k, k < n → y1 k = F k) (hC : CHN n F y3) (hr : ∀ e j, e < n → j < 5 → sX2_read v.2.2.1.2.2.2.1 (nI e) (nI j) = some (w.1.2 (554 + 5 * e + j))) (he : e < n) : ∀ (d j : Nat) (h : Int64), j + d = 7 → ∃ x, (∀ M, d < M → qX10_mixEvents_36 (chv v y1 y2 y3 n) (nI e) M h (nI j) = some (x, nI 7)) ∧ ∀ M, d < M → qX11_digest_173 N (chw w F la) (nI e) M h (nI j) = some (x, nI 7) := by
  intro d
  induction d with
  | zero =>
    intro j h hj
    have : j = 7 := by omega
    subst this
    refine ⟨h, fun M hM => ?_, fun M hM => ?_⟩
    · obtain ⟨M, rfl⟩ : ∃ N', M = N' + 1 := ⟨M - 1, by omega⟩
      rw [qX10_mixEvents_36]
      simp (disch := omega) only [↓reduceIte, e_lt, e_bd, e_grd, e_clamp, e_l0, e_l1, e_l2, e_l3, e_l4, e_l5, e_l6, e_l7, e_l8, e_l9, e_l10, e_l12, e_l13, e_l20, e_l31, e_l32, e_l45, e_l48, e_l50, e_l57, e_l58, e_l59, e_l64, e_l70, e_l100, e_l106, e_l127, e_l138, e_l554, e_l799, e_l804, e_l1000, e_l2000, e_l2412, e_l100000, e_m1, nI_add, ni_mul, ni_sub, nI_clamp, e_ltT, e_ltF, e_leT, e_leF, e_eqT, e_eqF, e_mE, e_Em, e_mlt, e_mle, e_ltm, e_lem, e_gz, e_gt, e_bs, ite_self, e_el, e_er, tq_get, tq_set, tq_inc, tb_get_neg, tb_set_neg, and_true, true_and, and_false, false_and, not_false_eq_true, not_true_eq_false] <;> rfl
    · obtain ⟨M, rfl⟩ : ∃ N', M = N' + 1 := ⟨M - 1, by omega⟩
      rw [qX11_digest_173]
      simp (disch := omega) only [↓reduceIte, e_lt, e_bd, e_grd, e_clamp, e_l0, e_l1, e_l2, e_l3, e_l4, e_l5, e_l6, e_l7, e_l8, e_l9, e_l10, e_l12, e_l13, e_l20, e_l31, e_l32, e_l45, e_l48, e_l50, e_l57, e_l58, e_l59, e_l64, e_l70, e_l100, e_l106, e_l127, e_l138, e_l554, e_l799, e_l804, e_l1000, e_l2000, e_l2412, e_l100000, e_m1, nI_add, ni_mul, ni_sub, nI_clamp, e_ltT, e_ltF, e_leT, e_leF, e_eqT, e_eqF, e_mE, e_Em, e_mlt, e_mle, e_ltm, e_lem, e_gz, e_gt, e_bs, ite_self, e_el, e_er, tq_get, tq_set, tq_inc, tb_get_neg, tb_set_neg, and_true, true_and, and_false, false_and, not_false_eq_true, not_true_eq_false] <;> rfl
  | succ d ih =>
    intro j h hj
    obtain ⟨x, b1, b2⟩ := ev_now (N := N) (v := v) (w := w) (y2 := y2) (e := e) (j := j) (la := la) hN hz hn h1 hC hr he (by omega)
    obtain ⟨y, e1, e2⟩ := ih (j + 1) (31 * h + x.toInt64) (by omega)
    refine ⟨y, fun M hM => ?_, fun M hM => ?_⟩
    · obtain ⟨M, rfl⟩ : ∃ N', M = N' + 1 := ⟨M - 1, by omega⟩
      have e1 := e1 M (by omega)
      rw [qX10_mixEvents_36]
      simp (disch := omega) only [b1, c_mix, e1, ↓reduceIte, e_lt, e_bd, e_grd, e_clamp, e_l0, e_l1, e_l2, e_l3, e_l4, e_l5, e_l6, e_l7, e_l8, e_l9, e_l10, e_l12, e_l13, e_l20, e_l31, e_l32, e_l45, e_l48, e_l50, e_l57, e_l58, e_l59, e_l64, e_l70, e_l100, e_l106, e_l127, e_l138, e_l554, e_l799, e_l804, e_l1000, e_l2000, e_l2412, e_l100000, e_m1, nI_add, ni_mul, ni_sub, nI_clamp, e_ltT, e_ltF, e_leT, e_leF, e_eqT, e_eqF, e_mE, e_Em, e_mlt, e_mle, e_ltm, e_lem, e_gz, e_gt, e_bs, ite_self, e_el, e_er, tq_get, tq_set, tq_inc, tb_get_neg, tb_set_neg, and_true, true_and, and_false, false_and, not_false_eq_true, not_true_eq_false] <;> rfl
    · obtain ⟨M, rfl⟩ : ∃ N', M = N' + 1 := ⟨M - 1, by omega⟩
      have e2 := e2 M (by omega)
      rw [qX11_digest_173]
      simp (disch := omega) only [b2, e2, ↓reduceIte, e_lt, e_bd, e_grd, e_clamp, e_l0, e_l1, e_l2, e_l3, e_l4, e_l5, e_l6, e_l7, e_l8, e_l9, e_l10, e_l12, e_l13, e_l20, e_l31, e_l32, e_l45, e_l48, e_l50, e_l57, e_l58, e_l59, e_l64, e_l70, e_l100, e_l106, e_l127, e_l138, e_l554, e_l799, e_l804, e_l1000, e_l2000, e_l2412, e_l100000, e_m1, nI_add, ni_mul, ni_sub, nI_clamp, e_ltT, e_ltF, e_leT, e_leF, e_eqT, e_eqF, e_mE, e_Em, e_mlt, e_mle, e_ltm, e_lem, e_gz, e_gt, e_bs, ite_self, e_el, e_er, tq_get, tq_set, tq_inc, tb_get_neg, tb_set_neg, and_true, true_and, and_false, false_and, not_false_eq_true, not_true_eq_false] <;> rfl
theorem dg_evs {N n : Nat} {v : V10} {w : V11} {y1 y2 y3 F : Nat → Int32} {la : Int32} (hN : 5000 ≤ N) (hz : w.1.1 = 804) (hn : n ≤ 50) (e1 : v.2.2.1.2.2.2.1.2.2.2 = nI n) (g9 : w.1.2 9 = nI n) (h1 : ∀ k, k < n → y1 k = F k) (hC : CHN n F y3) (hr : ∀ e j, e < n → j < 5 → sX2_read v.2.2.1.2.2.2.1 (nI e) (nI j) = some (w.1.2 (554 + 5 * e + j))) : ∀ (d e : Nat) (h : Int64), e + d = n → ∃ x, (∀ M, d < M → qX10_mixEvents_18 N (chv v y1 y2 y3 n) M h (nI e) = some (x, nI n)) ∧ ∀ M, d < M → qX11_digest_159 N (chw w F la) M h (nI e) = some (x, nI n) := by
  have e1' : (chv v y1 y2 y3 n).2.2.1.2.2.2.1.2.2.2 = nI n := e1
  have g9' : (chw w F la).1.2 9 = nI n := g9
  have hz' : (chw w F la).1.1 = 804 := hz
  intro d
  induction d with
  | zero =>
    intro e h he
    have : e = n := by omega
    subst this
    refine ⟨h, fun M hM => ?_, fun M hM => ?_⟩
    · obtain ⟨M, rfl⟩ : ∃ N', M = N' + 1 := ⟨M - 1, by omega⟩
      rw [qX10_mixEvents_18]
      simp (disch := omega) only [e1', ↓reduceIte, e_lt, e_bd, e_grd, e_clamp, e_l0, e_l1, e_l2, e_l3, e_l4, e_l5, e_l6, e_l7, e_l8, e_l9, e_l10, e_l12, e_l13, e_l20, e_l31, e_l32, e_l45, e_l48, e_l50, e_l57, e_l58, e_l59, e_l64, e_l70, e_l100, e_l106, e_l127, e_l138, e_l554, e_l799, e_l804, e_l1000, e_l2000, e_l2412, e_l100000, e_m1, nI_add, ni_mul, ni_sub, nI_clamp, e_ltT, e_ltF, e_leT, e_leF, e_eqT, e_eqF, e_mE, e_Em, e_mlt, e_mle, e_ltm, e_lem, e_gz, e_gt, e_bs, ite_self, e_el, e_er, tq_get, tq_set, tq_inc, tb_get_neg, tb_set_neg, and_true, true_and, and_false, false_and, not_false_eq_true, not_true_eq_false] <;> rfl
    · obtain ⟨M, rfl⟩ : ∃ N', M = N' + 1 := ⟨M - 1, by omega⟩
      rw [qX11_digest_159]
      simp (disch := omega) only [hz', g9', ↓reduceIte, e_lt, e_bd, e_grd, e_clamp, e_l0, e_l1, e_l2, e_l3, e_l4, e_l5, e_l6, e_l7, e_l8, e_l9, e_l10, e_l12, e_l13, e_l20, e_l31, e_l32, e_l45, e_l48, e_l50, e_l57, e_l58, e_l59, e_l64, e_l70, e_l100, e_l106, e_l127, e_l138, e_l554, e_l799, e_l804, e_l1000, e_l2000, e_l2412, e_l100000, e_m1, nI_add, ni_mul, ni_sub, nI_clamp, e_ltT, e_ltF, e_leT, e_leF, e_eqT, e_eqF, e_mE, e_Em, e_mlt, e_mle, e_ltm, e_lem, e_gz, e_gt, e_bs, ite_self, e_el, e_er, tq_get, tq_set, tq_inc, tb_get_neg, tb_set_neg, and_true, true_and, and_false, false_and, not_false_eq_true, not_true_eq_false] <;> rfl
  | succ d ih =>
    intro e h he
    obtain ⟨x, b1, b2⟩ := dg_ev1 (N := N) (v := v) (w := w) (y2 := y2) (e := e) (la := la) hN hz hn h1 hC hr (by omega) 7 0 h (by omega)
    have b1 := b1 N (by omega)
    have b2 := b2 N (by omega)
    obtain ⟨y, c1, c2⟩ := ih (e + 1) x (by omega)
    refine ⟨y, fun M hM => ?_, fun M hM => ?_⟩
    · obtain ⟨M, rfl⟩ : ∃ N', M = N' + 1 := ⟨M - 1, by omega⟩
      have c1 := c1 M (by omega)
      rw [qX10_mixEvents_18]
      simp (disch := omega) only [e1', b1, c1, ↓reduceIte, e_lt, e_bd, e_grd, e_clamp, e_l0, e_l1, e_l2, e_l3, e_l4, e_l5, e_l6, e_l7, e_l8, e_l9, e_l10, e_l12, e_l13, e_l20, e_l31, e_l32, e_l45, e_l48, e_l50, e_l57, e_l58, e_l59, e_l64, e_l70, e_l100, e_l106, e_l127, e_l138, e_l554, e_l799, e_l804, e_l1000, e_l2000, e_l2412, e_l100000, e_m1, nI_add, ni_mul, ni_sub, nI_clamp, e_ltT, e_ltF, e_leT, e_leF, e_eqT, e_eqF, e_mE, e_Em, e_mlt, e_mle, e_ltm, e_lem, e_gz, e_gt, e_bs, ite_self, e_el, e_er, tq_get, tq_set, tq_inc, tb_get_neg, tb_set_neg, and_true, true_and, and_false, false_and, not_false_eq_true, not_true_eq_false] <;> rfl
    · obtain ⟨M, rfl⟩ : ∃ N', M = N' + 1 := ⟨M - 1, by omega⟩
      have c2 := c2 M (by omega)
      rw [qX11_digest_159]
      simp (disch := omega) only [hz', g9', b2, c2, ↓reduceIte, e_lt, e_bd, e_grd, e_clamp, e_l0, e_l1, e_l2, e_l3, e_l4, e_l5, e_l6, e_l7, e_l8, e_l9, e_l10, e_l12, e_l13, e_l20, e_l31, e_l32, e_l45, e_l48, e_l50, e_l57, e_l58, e_l59, e_l64, e_l70, e_l100, e_l106, e_l127, e_l138, e_l554, e_l799, e_l804, e_l1000, e_l2000, e_l2412, e_l100000, e_m1, nI_add, ni_mul, ni_sub, nI_clamp, e_ltT, e_ltF, e_leT, e_leF, e_eqT, e_eqF, e_mE, e_Em, e_mlt, e_mle, e_ltm, e_lem, e_gz, e_gt, e_bs, ite_self, e_el, e_er, tq_get, tq_set, tq_inc, tb_get_neg, tb_set_neg, and_true, true_and, and_false, false_and, not_false_eq_true, not_true_eq_false] <;> rfl
theorem pu_digest {N : Nat} (hN : 5000 ≤ N) : PU_digest RR N := by
  intro cn v w hcn h
  have hz : w.1.1 = 804 := h.1.1
  obtain ⟨n, y1, y2, y3, F, hn, e1, e2, a1, a2, a3, a4, a5⟩ := ch_all h hcn hN
  obtain ⟨-, ⟨-, lt, -, l1, l2, -⟩, ⟨⟨sT, sn, s1, s2, s3, s4, -⟩, hP, t, ht, g0, hD, -, fl, th, gp, tl, -, -, -, -, -, n6, n7, n8, n9, n10⟩, m, hm, hH⟩ := id h
  obtain ⟨nx, p1, p2⟩ := nx_both (v := v.2.2.1.2.1) (w := setTh w (nI 0)) hP hz
  obtain ⟨pT, pn, pp, el, q1, q2, q3, -, -, -, -, -, -, -, -, q4, -⟩ := id hP
  have hmc : v.2.2.2.1.2.2.2.2.2 = nI m := by obtain ⟨_, _, _, _, q, _⟩ := hH; exact q
  obtain ⟨sf, hsf⟩ := sT.ex
  obtain ⟨pf, hpf⟩ := pT.ex
  rw [hsf] at s4
  rw [hpf] at q4
  have s4 : ∀ i j, i < sn → j < 6 → sf (i * 6 + j) = w.1.2 (10 + 6 * i + j) := s4
  have q4 : ∀ i j, i < pn → j < 3 → pf (i * 3 + j) = w.1.2 (70 + 3 * i + j) := q4
  have rsg : ∀ h, sX9_mixRows N v.2.2.1.1.1 h (nI sn) = some (hf (fun k => w.1.2 (10 + k)) h (6 * sn)) := by
    intro h
    rw [hsf]
    refine (c_rows (f := sf) (C := 6) s1 (by decide) (by decide) (by decide) (by decide) (by omega) (by omega)).trans ?_
    rw [Nat.mul_comm]
    refine congrArg some (hf_cg (fun k hk => ?_))
    have := s4 (k / 6) (k % 6) (by omega) (by omega)
    rw [show k / 6 * 6 + k % 6 = k by omega, show 10 + 6 * (k / 6) + k % 6 = 10 + k by omega] at this
    exact this
  have rpl : ∀ h, sX9_mixRows N v.2.2.1.2.1.1 h (nI pn) = some (hf (fun k => w.1.2 (70 + k)) h (3 * pn)) := by
    intro h
    rw [hpf]
    refine (c_rows (f := pf) (C := 3) q1 (by decide) (by decide) (by decide) (by decide) (by omega) (by omega)).trans ?_
    rw [Nat.mul_comm]
    refine congrArg some (hf_cg (fun k hk => ?_))
    have := q4 (k / 3) (k % 3) (by omega) (by omega)
    rw [show k / 3 * 3 + k % 3 = k by omega, show 70 + 3 * (k / 3) + k % 3 = 70 + k by omega] at this
    exact this
  have hsm : ∀ (a k : Nat) (h : Int64), a + k ≤ 804 → sX11_sums N (w.1, w.2.1, w.2.2.1, nI 0, w.2.2.2.2.1, w.2.2.2.2.2.1, w.2.2.2.2.2.2.1, w.2.2.2.2.2.2.2.1, w.2.2.2.2.2.2.2.2.1, w.2.2.2.2.2.2.2.2.2.1, w.2.2.2.2.2.2.2.2.2.2.1, w.2.2.2.2.2.2.2.2.2.2.2.1, w.2.2.2.2.2.2.2.2.2.2.2.2.1, w.2.2.2.2.2.2.2.2.2.2.2.2.2) h (nI a) (nI k) = some (hf (fun j => w.1.2 (a + j)) h k) := fun a k h hk => m_sums hz hk (by omega)
  have p2 : sX11_stepNow (w.1, w.2.1, w.2.2.1, nI 0, w.2.2.2.2.1, w.2.2.2.2.2.1, w.2.2.2.2.2.2.1, w.2.2.2.2.2.2.2.1, w.2.2.2.2.2.2.2.2.1, w.2.2.2.2.2.2.2.2.2.1, w.2.2.2.2.2.2.2.2.2.2.1, w.2.2.2.2.2.2.2.2.2.2.2.1, w.2.2.2.2.2.2.2.2.2.2.2.2.1, w.2.2.2.2.2.2.2.2.2.2.2.2.2) = some nx := p2
  have a2 : sX11_laysChains N (w.1, w.2.1, w.2.2.1, nI 0, w.2.2.2.2.1, w.2.2.2.2.2.1, w.2.2.2.2.2.2.1, w.2.2.2.2.2.2.2.1, w.2.2.2.2.2.2.2.2.1, w.2.2.2.2.2.2.2.2.2.1, w.2.2.2.2.2.2.2.2.2.2.1, w.2.2.2.2.2.2.2.2.2.2.2.1, w.2.2.2.2.2.2.2.2.2.2.2.2.1, w.2.2.2.2.2.2.2.2.2.2.2.2.2) = some (chw w F w.2.2.2.2.2.2.2.2.2.2.2.2.2) := a2
  obtain ⟨hB, c1, c2⟩ := dg_chan (N := N) (v := v.2.2.1.2.2.1) hN hz (by omega) hD 32 0 (31 * hf (fun j => w.1.2 (70 + j)) (31 * hf (fun k => w.1.2 (10 + k)) (hf (fun j => w.1.2 (0 + j)) (88381 + (nI lt).toInt64) 6) (6 * sn) + (nI pn).toInt64) (3 * pn) + nx.toInt64) (by omega)
  have c1 := c1 N (by omega)
  have c2 := c2 N (by omega)
  obtain ⟨hE, d1, d2⟩ := dg_evs (N := N) (v := v) (w := w) (y2 := y2) (la := w.2.2.2.2.2.2.2.2.2.2.2.2.2) hN hz hn e1 e2 a3 a4 a5 n 0 (31 * hB + (nI n).toInt64) (by omega)
  have d1 := d1 N (by omega)
  have d2 := d2 N (by omega)
  have h6 : hf (fun j => w.1.2 (0 + j)) (88381 + (nI lt).toInt64) 6 = 31 * (31 * (31 * (31 * (31 * (31 * (31 * 2851 + (nI lt).toInt64) + (nI t).toInt64) + (nI fl).toInt64) + (nI th).toInt64) + (nI gp).toInt64) + (nI tl).toInt64) + (nI sn).toInt64 := by
    simp only [hf, Nat.zero_add, Nat.reduceAdd, g0, n7, n8, n9, n10, s3]
    rfl
  refine ⟨(31 * hE + (nI m).toInt64, chv v y1 y2 y3 n), (31 * hE + (nI m).toInt64, chw w F w.2.2.2.2.2.2.2.2.2.2.2.2.2), ?_, ?_, rfl, h.ch _ _ _ _ _ _⟩
  · have v0 : v.2.2.1.2.2.2.2.1 = nI t := by rw [n6]
    have v1 : v.2.2.1.2.2.2.2.2.1 = nI fl := by rw [n6]
    have v2 : v.2.2.1.2.2.2.2.2.2.1 = nI th := by rw [n6]
    have v3 : v.2.2.1.2.2.2.2.2.2.2.1 = nI gp := by rw [n6]
    have v4 : v.2.2.1.2.2.2.2.2.2.2.2 = nI tl := by rw [n6]
    have e1' : (chv v y1 y2 y3 n).2.2.1.2.2.2.1.2.2.2 = nI n := e1
    have hmc' : (chv v y1 y2 y3 n).2.2.2.1.2.2.2.2.2 = nI m := hmc
    rw [h6] at c1
    simp only [sX10_digest, c_mix, e_bd, l1, v0, v1, v2, v3, v4, s2, rsg, q2, rpl, p1, sX1_mixChannels, e_l0, c1, a1, sX10_mixEvents, e1', d1, hmc']
  · have hmw : (chw w F w.2.2.2.2.2.2.2.2.2.2.2.2.2).2.2.1 = nI m := hm
    rw [← l2] at c2
    simp (disch := omega) only [sX11_digest, hz, hsm, s3, q3, p2, c2, e2, a2, d2, hmw, ↓reduceIte, e_lt, e_bd, e_grd, e_clamp, e_l0, e_l1, e_l2, e_l3, e_l4, e_l5, e_l6, e_l7, e_l8, e_l9, e_l10, e_l12, e_l13, e_l20, e_l31, e_l32, e_l45, e_l48, e_l50, e_l57, e_l58, e_l59, e_l64, e_l70, e_l100, e_l106, e_l127, e_l138, e_l554, e_l799, e_l804, e_l1000, e_l2000, e_l2412, e_l100000, e_m1, nI_add, ni_mul, ni_sub, nI_clamp, e_ltT, e_ltF, e_leT, e_leF, e_eqT, e_eqF, e_mE, e_Em, e_mlt, e_mle, e_ltm, e_lem, e_gz, e_gt, e_bs, ite_self, e_el, e_er, tq_get, tq_set, tq_inc, tb_get_neg, tb_set_neg, and_true, true_and, and_false, false_and, not_false_eq_true, not_true_eq_false] <;> rfl
