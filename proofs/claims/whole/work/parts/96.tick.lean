/-! the channels of one tick -/
section TK
variable {N T t0 fl th lo hi pp np : Nat} {sg : V7} {tp lv0 lvl F G0 : Nat → Int32} {pp2 pp3 : Int32} {gp tl : Int32} {n2 n3 n4 n5 : Nat} {sv tx rd bf : Nat → Int32} {sm thr txl pl rm so wr fo la : Int32}
theorem c_cov {c : Nat} (hlo : tp (pp * 3 + 0) = nI lo) (hhi : tp (pp * 3 + 1) = nI hi) (h1 : lo ≤ hi) (h2 : hi < 32) (hp : pp < 12) (hc : c < 32) : sX5_covers ((nI 12, nI 3, 12 * 3, tp), nI np, pp2, pp3) (nI pp) (nI c) = some (if lo ≤ c ∧ c ≤ hi then nI 1 else nI 0) := by
  by_cases q1 : lo ≤ c
  · by_cases q2 : c ≤ hi
    · simp (disch := omega) only [sX5_covers, hlo, hhi, q1, q2, ↓reduceIte, e_lt, e_bd, e_grd, e_clamp, e_l0, e_l1, e_l2, e_l3, e_l4, e_l5, e_l6, e_l7, e_l8, e_l9, e_l10, e_l12, e_l13, e_l20, e_l31, e_l32, e_l45, e_l48, e_l50, e_l57, e_l58, e_l59, e_l64, e_l70, e_l100, e_l106, e_l127, e_l138, e_l554, e_l799, e_l804, e_l1000, e_l2000, e_l2412, e_l100000, e_m1, nI_add, ni_mul, ni_sub, nI_clamp, e_ltT, e_ltF, e_leT, e_leF, e_eqT, e_eqF, e_mE, e_Em, e_mlt, e_mle, e_ltm, e_lem, e_gz, e_gt, e_bs, ite_self, e_el, e_er, tq_get, tq_set, tq_inc, tb_get_neg, tb_set_neg, and_true, true_and, and_false, false_and, not_false_eq_true, not_true_eq_false] <;> rfl
    · simp (disch := omega) only [sX5_covers, hlo, hhi, q1, q2, ↓reduceIte, e_lt, e_bd, e_grd, e_clamp, e_l0, e_l1, e_l2, e_l3, e_l4, e_l5, e_l6, e_l7, e_l8, e_l9, e_l10, e_l12, e_l13, e_l20, e_l31, e_l32, e_l45, e_l48, e_l50, e_l57, e_l58, e_l59, e_l64, e_l70, e_l100, e_l106, e_l127, e_l138, e_l554, e_l799, e_l804, e_l1000, e_l2000, e_l2412, e_l100000, e_m1, nI_add, ni_mul, ni_sub, nI_clamp, e_ltT, e_ltF, e_leT, e_leF, e_eqT, e_eqF, e_mE, e_Em, e_mlt, e_mle, e_ltm, e_lem, e_gz, e_gt, e_bs, ite_self, e_el, e_er, tq_get, tq_set, tq_inc, tb_get_neg, tb_set_neg, and_true, true_and, and_false, false_and, not_false_eq_true, not_true_eq_false] <;> rfl
  · simp (disch := omega) only [sX5_covers, hlo, hhi, q1, ↓reduceIte, e_lt, e_bd, e_grd, e_clamp, e_l0, e_l1, e_l2, e_l3, e_l4, e_l5, e_l6, e_l7, e_l8, e_l9, e_l10, e_l12, e_l13, e_l20, e_l31, e_l32, e_l45, e_l48, e_l50, e_l57, e_l58, e_l59, e_l64, e_l70, e_l100, e_l106, e_l127, e_l138, e_l554, e_l799, e_l804, e_l1000, e_l2000, e_l2412, e_l100000, e_m1, nI_add, ni_mul, ni_sub, nI_clamp, e_ltT, e_ltF, e_leT, e_leF, e_eqT, e_eqF, e_mE, e_Em, e_mlt, e_mle, e_ltm, e_lem, e_gz, e_gt, e_bs, ite_self, e_el, e_er, tq_get, tq_set, tq_inc, tb_get_neg, tb_set_neg, and_true, true_and, and_false, false_and, not_false_eq_true, not_true_eq_false] <;> rfl
theorem tk_loop (hN : 5000 ≤ N) (hlo : tp (pp * 3 + 0) = nI lo) (hhi : tp (pp * 3 + 1) = nI hi) (h1 : lo ≤ hi) (h2 : hi < 32) (hp : pp < 12) (hT : t0 < 2 ^ 29) (hth : th ≤ 100)
    (hF : F 7 = nI pp) (g0 : G0 0 = nI T) (g2 : G0 2 = nI th) (ghi : G0 (70 + 3 * pp + 1) = nI hi)
    (hl : ∀ c, c < 32 → ∃ l, l ≤ 100 ∧ lvl c = nI l) (hL : ∀ g : Nat → Int32, (∀ k, k ≠ 9 → k < 106 → g k = G0 k) → ∀ c, c < 32 → sX11_levelNow N ((804, g), (n2, sv), sm, thr, (n3, tx), txl, pl, (n4, rd), rm, so, wr, fo, (n5, bf), la) (nI c) = some (lvl c)) :
    ∀ (d c : Nat), c + d = 32 → ∀ (f1 f2 f3 f o p : Nat → Int32) (n : Nat) (od : Nat → Nat) (g : Nat → Int32), (∀ k, k ≠ 9 → k < 138 → g k = G0 k) → RDB f1 f2 f3 g (fun c' => if c' < c then t0 + 1 else t0) → RE f o p n od g T →
    ∃ f1' f2' f' o' p' n' od' g', (∀ M, d < M → qX8_passTick_31 N (32, lv0) (nI pp) lvl M (nI c) sg ((nI 12, nI 3, 12 * 3, tp), nI np, pp2, pp3) (dtv f1 f2 f3) (lgv f o p n) (nI T) (nI fl) (nI th) gp tl = some (nI 32, sg, ((nI 12, nI 3, 12 * 3, tp), nI np, pp2, pp3), dtv f1' f2' f3, lgv f' o' p' n', nI T, nI fl, nI th, gp, tl)) ∧
      (∀ M, 40 < M → ∃ z, qX11_ticks_41 N F (M - (max lo (min c (hi + 1)) - lo)) (nI (max lo (min c (hi + 1)))) 804 g n2 sv sm thr n3 tx txl pl n4 rd rm so wr fo n5 bf la = some (z, 804, g', n2, sv, sm, thr, n3, tx, txl, pl, n4, rd, rm, so, wr, fo, n5, bf, la)) ∧ (∀ k, k ≠ 9 → k < 138 → g' k = G0 k) ∧ RDB f1' f2' f3 g' (fun _ => t0 + 1) ∧ RE f' o' p' n' od' g' T := by
  intro d
  induction d with
  | zero =>
    intro c hc f1 f2 f3 f o p n od g hg hD hE
    have : c = 32 := by omega
    subst this
    refine ⟨f1, f2, f, o, p, n, od, g, fun M hM => ?_, fun M hM => ?_, hg, ?_, hE⟩
    · obtain ⟨M, rfl⟩ : ∃ N', M = N' + 1 := ⟨M - 1, by omega⟩
      rw [qX8_passTick_31]
      simp (disch := omega) only [↓reduceIte, e_lt, e_bd, e_grd, e_clamp, e_l0, e_l1, e_l2, e_l3, e_l4, e_l5, e_l6, e_l7, e_l8, e_l9, e_l10, e_l12, e_l13, e_l20, e_l31, e_l32, e_l45, e_l48, e_l50, e_l57, e_l58, e_l59, e_l64, e_l70, e_l100, e_l106, e_l127, e_l138, e_l554, e_l799, e_l804, e_l1000, e_l2000, e_l2412, e_l100000, e_m1, nI_add, ni_mul, ni_sub, nI_clamp, e_ltT, e_ltF, e_leT, e_leF, e_eqT, e_eqF, e_mE, e_Em, e_mlt, e_mle, e_ltm, e_lem, e_gz, e_gt, e_bs, ite_self, e_el, e_er, tq_get, tq_set, tq_inc, tb_get_neg, tb_set_neg, and_true, true_and, and_false, false_and, not_false_eq_true, not_true_eq_false] <;> rfl
    · have hm : max lo (min 32 (hi + 1)) = hi + 1 := by omega
      rw [hm]
      obtain ⟨M, hM2⟩ : ∃ N', M - (hi + 1 - lo) = N' + 1 := ⟨M - (hi + 1 - lo) - 1, by omega⟩
      rw [hM2]
      have gh : g (70 + 3 * pp + 1) = nI hi := (hg _ (by omega) (by omega)).trans ghi
      refine ⟨nI (hi + 1), ?_⟩
      rw [qX11_ticks_41]
      simp (disch := omega) only [e_k7, hF, gh, ↓reduceIte, e_lt, e_bd, e_grd, e_clamp, e_l0, e_l1, e_l2, e_l3, e_l4, e_l5, e_l6, e_l7, e_l8, e_l9, e_l10, e_l12, e_l13, e_l20, e_l31, e_l32, e_l45, e_l48, e_l50, e_l57, e_l58, e_l59, e_l64, e_l70, e_l100, e_l106, e_l127, e_l138, e_l554, e_l799, e_l804, e_l1000, e_l2000, e_l2412, e_l100000, e_m1, nI_add, ni_mul, ni_sub, nI_clamp, e_ltT, e_ltF, e_leT, e_leF, e_eqT, e_eqF, e_mE, e_Em, e_mlt, e_mle, e_ltm, e_lem, e_gz, e_gt, e_bs, ite_self, e_el, e_er, tq_get, tq_set, tq_inc, tb_get_neg, tb_set_neg, and_true, true_and, and_false, false_and, not_false_eq_true, not_true_eq_false] <;> rfl
    · obtain ⟨q1, q2, q3⟩ := hD
      refine ⟨q1, q2, fun c hc => ?_⟩
      obtain ⟨ob, r1, r2⟩ := q3 c hc
      dsimp only at r1
      rw [if_pos hc] at r1
      exact ⟨ob, r1, r2⟩
  | succ d ih =>
    intro c hc f1 f2 f3 f o p n od g hg hD hE
    have hcov := c_cov (np := np) (pp2 := pp2) (pp3 := pp3) (c := c) hlo hhi h1 h2 hp (by omega)
    have gh : g (70 + 3 * pp + 1) = nI hi := (hg _ (by omega) (by omega)).trans ghi
    by_cases hin : lo ≤ c ∧ c ≤ hi
    · obtain ⟨l, hl1, hl2⟩ := hl c (by omega)
      have hlv := hL g (fun k hk1 hk2 => hg k hk1 (by omega)) c (by omega)
      rw [hl2] at hlv
      have hBc : (fun c' => if c' < c then t0 + 1 else t0) c < 2 ^ 30 := by
        dsimp only
        rw [if_neg (by omega)]
        omega
      obtain ⟨f1', f2', f', o', p', n', od', g', a1, a2, a3, a4, a5⟩ := st_obs (N := N) (c := c) (T := T) (fl := fl) (th := th) (l := l) (w := ((804, g), (n2, sv), sm, thr, (n3, tx), txl, pl, (n4, rd), rm, so, wr, fo, (n5, bf), la)) (sg := sg) (pn := ((nI 12, nI 3, 12 * 3, tp), nI np, pp2, pp3)) (gp := gp) (tl := tl) hN rfl (by omega) hBc ((hg 0 (by omega) (by omega)).trans g0) ((hg 2 (by omega) (by omega)).trans g2) hth hl1 hlv hD hE
      have hD' : RDB f1' f2' f3 g' (fun c' => if c' < c + 1 then t0 + 1 else t0) := by
        obtain ⟨q1, q2, q3⟩ := a3
        refine ⟨q1, q2, fun c' hc' => ?_⟩
        obtain ⟨ob, r1, r2⟩ := q3 c' hc'
        refine ⟨ob, ?_, r2⟩
        dsimp only at r1 ⊢
        by_cases e1 : c' = c
        · rw [if_pos e1, if_neg (by omega)] at r1
          rw [if_pos (by omega)]
          exact r1
        · rw [if_neg e1] at r1
          by_cases e2 : c' < c
          · rw [if_pos e2] at r1
            rw [if_pos (by omega)]
            exact r1
          · rw [if_neg e2] at r1
            rw [if_neg (by omega)]
            exact r1
      obtain ⟨h1', h2', h', o2, p2, nn2, od2, gg2, b1, b2, b3, b4, b5⟩ := ih (c + 1) (by omega) f1' f2' f3 f' o' p' n' od' g' (fun k hk1 hk2 => (a5 k hk1 hk2).trans (hg k hk1 hk2)) hD' a4
      refine ⟨h1', h2', h', o2, p2, nn2, od2, gg2, fun M hM => ?_, fun M hM => ?_, b3, b4, b5⟩
      · obtain ⟨M, rfl⟩ : ∃ N', M = N' + 1 := ⟨M - 1, by omega⟩
        have b1 := b1 M (by omega)
        rw [qX8_passTick_31]
        rw [if_pos hin] at hcov
        simp (disch := omega) only [hcov, hl2, a1, b1, ↓reduceIte, e_lt, e_bd, e_grd, e_clamp, e_l0, e_l1, e_l2, e_l3, e_l4, e_l5, e_l6, e_l7, e_l8, e_l9, e_l10, e_l12, e_l13, e_l20, e_l31, e_l32, e_l45, e_l48, e_l50, e_l57, e_l58, e_l59, e_l64, e_l70, e_l100, e_l106, e_l127, e_l138, e_l554, e_l799, e_l804, e_l1000, e_l2000, e_l2412, e_l100000, e_m1, nI_add, ni_mul, ni_sub, nI_clamp, e_ltT, e_ltF, e_leT, e_leF, e_eqT, e_eqF, e_mE, e_Em, e_mlt, e_mle, e_ltm, e_lem, e_gz, e_gt, e_bs, ite_self, e_el, e_er, tq_get, tq_set, tq_inc, tb_get_neg, tb_set_neg, and_true, true_and, and_false, false_and, not_false_eq_true, not_true_eq_false] <;> rfl
      · obtain ⟨z, b2⟩ := b2 M hM
        refine ⟨z, ?_⟩
        have e1 : max lo (min c (hi + 1)) = c := by omega
        have e2 : max lo (min (c + 1) (hi + 1)) = c + 1 := by omega
        rw [e2] at b2
        rw [e1]
        have e3 : M - (c - lo) = M - (c + 1 - lo) + 1 := by omega
        rw [e3, qX11_ticks_41]
        simp (disch := omega) only [e_k7, hF, gh, a2, b2, ↓reduceIte, e_lt, e_bd, e_grd, e_clamp, e_l0, e_l1, e_l2, e_l3, e_l4, e_l5, e_l6, e_l7, e_l8, e_l9, e_l10, e_l12, e_l13, e_l20, e_l31, e_l32, e_l45, e_l48, e_l50, e_l57, e_l58, e_l59, e_l64, e_l70, e_l100, e_l106, e_l127, e_l138, e_l554, e_l799, e_l804, e_l1000, e_l2000, e_l2412, e_l100000, e_m1, nI_add, ni_mul, ni_sub, nI_clamp, e_ltT, e_ltF, e_leT, e_leF, e_eqT, e_eqF, e_mE, e_Em, e_mlt, e_mle, e_ltm, e_lem, e_gz, e_gt, e_bs, ite_self, e_el, e_er, tq_get, tq_set, tq_inc, tb_get_neg, tb_set_neg, and_true, true_and, and_false, false_and, not_false_eq_true, not_true_eq_false] <;> rfl
    · have hD' : RDB f1 f2 f3 g (fun c' => if c' < c + 1 then t0 + 1 else t0) := by
        obtain ⟨q1, q2, q3⟩ := hD
        refine ⟨q1, q2, fun c' hc' => ?_⟩
        obtain ⟨ob, r1, r2⟩ := q3 c' hc'
        refine ⟨ob, Nat.le_trans r1 ?_, r2⟩
        dsimp only
        by_cases e2 : c' < c
        · rw [if_pos e2, if_pos (by omega)]
          exact Nat.le_refl _
        · rw [if_neg e2]
          split <;> omega
      obtain ⟨h1', h2', h', o2, p2, nn2, od2, gg2, b1, b2, b3, b4, b5⟩ := ih (c + 1) (by omega) f1 f2 f3 f o p n od g hg hD' hE
      refine ⟨h1', h2', h', o2, p2, nn2, od2, gg2, fun M hM => ?_, fun M hM => ?_, b3, b4, b5⟩
      · obtain ⟨M, rfl⟩ : ∃ N', M = N' + 1 := ⟨M - 1, by omega⟩
        have b1 := b1 M (by omega)
        rw [qX8_passTick_31]
        rw [if_neg hin] at hcov
        simp (disch := omega) only [hcov, b1, ↓reduceIte, e_lt, e_bd, e_grd, e_clamp, e_l0, e_l1, e_l2, e_l3, e_l4, e_l5, e_l6, e_l7, e_l8, e_l9, e_l10, e_l12, e_l13, e_l20, e_l31, e_l32, e_l45, e_l48, e_l50, e_l57, e_l58, e_l59, e_l64, e_l70, e_l100, e_l106, e_l127, e_l138, e_l554, e_l799, e_l804, e_l1000, e_l2000, e_l2412, e_l100000, e_m1, nI_add, ni_mul, ni_sub, nI_clamp, e_ltT, e_ltF, e_leT, e_leF, e_eqT, e_eqF, e_mE, e_Em, e_mlt, e_mle, e_ltm, e_lem, e_gz, e_gt, e_bs, ite_self, e_el, e_er, tq_get, tq_set, tq_inc, tb_get_neg, tb_set_neg, and_true, true_and, and_false, false_and, not_false_eq_true, not_true_eq_false] <;> rfl
      · obtain ⟨z, b2⟩ := b2 M hM
        refine ⟨z, ?_⟩
        have e1 : max lo (min c (hi + 1)) = max lo (min (c + 1) (hi + 1)) := by omega
        rw [e1]
        exact b2
end TK
/-! one tick -/
def STx (v : V8) (g : Nat → Int32) (t : Nat) : Prop := Rsig v.1 g ∧ Rpl v.2.1 g ∧ g 0 = nI t ∧ Rdet v.2.2.1 g t ∧ Rev v.2.2.2.1 g t ∧ Rnum v.2.2.2.2 g t
theorem tk_one {N t : Nat} {v : V8} {w : V11} {lv0 : Nat → Int32} (hN : 5000 ≤ N) (hz : w.1.1 = 804) (ht : t < 2000000) (h : STx v w.1.2 t) : ∃ v' g' lv', sX8_passTick N v (32, lv0) = some (v', lv') ∧ sX11_ticks N w = some ((w.1.1, g'), w.2) ∧ STx v' g' (t + 1) := by
  obtain ⟨⟨n1, g⟩, ⟨n2, sv⟩, sm, thr, ⟨n3, tx⟩, txl, pl, ⟨n4, rd⟩, rm, so, wr, fo, ⟨n5, bf⟩, la⟩ := w
  obtain ⟨sg, pn, dt, lg, nm⟩ := v
  obtain ⟨hS, hP, g0, hD, hE, fl, th, gp, tl, b1, b2, b3, b4, b5, b6, b7, b8, b9, b10⟩ := h
  dsimp only at hz hS hP g0 hD hE b6 b7 b8 b9 b10
  subst hz; subst b6
  obtain ⟨f1, f2, f3, rfl, hD2⟩ := hD.ex
  obtain ⟨f, o, p, nn, od, rfl, hE2⟩ := hE.ex
  have hgs : ∀ k, k ≠ 0 → upd g 0 (nI (t + 1)) k = g k := fun k hk => e_ne hk
  have hg00 : upd g 0 (nI (t + 1)) 0 = nI (t + 1) := e_eq rfl
  have hS' : Rsig sg (upd g 0 (nI (t + 1))) := Rsig_cg (fun k hk => (hgs k (by omega)).symm) hS
  obtain ⟨hT0, n, pp, el, c1, c2, c3, c4, c5, c6, c7, c8, c9, c10, c11, c12, c13⟩ := id hP
  obtain ⟨tp, htp⟩ := hT0.ex
  have hpn : pn = ((nI 12, nI 3, 12 * 3, tp), nI n, nI pp, nI el) := by
    rw [← htp, ← c2, ← c4, ← c6]
  subst hpn
  have c12 : ∀ i j, i < n → j < 3 → tp (i * 3 + j) = g (70 + 3 * i + j) := c12
  have c3' : upd g 0 (nI (t + 1)) 6 = nI n := (hgs 6 (by omega)).trans c3
  by_cases hn : n = 0
  · subst hn
    refine ⟨(sg, ((nI 12, nI 3, 12 * 3, tp), nI 0, nI pp, nI el), dtv f1 f2 f3, lgv f o p nn, nI (t + 1), nI fl, nI th, nI gp, nI tl), upd g 0 (nI (t + 1)), lv0, ?_, ?_, hS', Rpl_cg (fun k hk => (hgs k (by omega)).symm) hP, e_eq rfl, (RDB_cg hD2 (fun k hk => (hgs k (by omega)).symm)).det (fun c hc => Nat.le_succ t), ((RE_cg hE2 (fun k hk => (hgs k (by omega)).symm)).mono (by omega)).rev, fl, th, gp, tl, b1, b2, b3, b4, b5, rfl, (hgs 1 (by omega)).trans b7, (hgs 2 (by omega)).trans b8, (hgs 3 (by omega)).trans b9, (hgs 4 (by omega)).trans b10⟩
    · simp (disch := omega) only [sX8_passTick, sX5_nextStep, ↓reduceIte, e_lt, e_bd, e_grd, e_clamp, e_l0, e_l1, e_l2, e_l3, e_l4, e_l5, e_l6, e_l7, e_l8, e_l9, e_l10, e_l12, e_l13, e_l20, e_l31, e_l32, e_l45, e_l48, e_l50, e_l57, e_l58, e_l59, e_l64, e_l70, e_l100, e_l106, e_l127, e_l138, e_l554, e_l799, e_l804, e_l1000, e_l2000, e_l2412, e_l100000, e_m1, nI_add, ni_mul, ni_sub, nI_clamp, e_ltT, e_ltF, e_leT, e_leF, e_eqT, e_eqF, e_mE, e_Em, e_mlt, e_mle, e_ltm, e_lem, e_gz, e_gt, e_bs, ite_self, e_el, e_er, tq_get, tq_set, tq_inc, tb_get_neg, tb_set_neg, and_true, true_and, and_false, false_and, not_false_eq_true, not_true_eq_false] <;> rfl
    · simp (disch := omega) only [sX11_ticks, g0, c3', ↓reduceIte, e_lt, e_bd, e_grd, e_clamp, e_l0, e_l1, e_l2, e_l3, e_l4, e_l5, e_l6, e_l7, e_l8, e_l9, e_l10, e_l12, e_l13, e_l20, e_l31, e_l32, e_l45, e_l48, e_l50, e_l57, e_l58, e_l59, e_l64, e_l70, e_l100, e_l106, e_l127, e_l138, e_l554, e_l799, e_l804, e_l1000, e_l2000, e_l2412, e_l100000, e_m1, nI_add, ni_mul, ni_sub, nI_clamp, e_ltT, e_ltF, e_leT, e_leF, e_eqT, e_eqF, e_mE, e_Em, e_mlt, e_mle, e_ltm, e_lem, e_gz, e_gt, e_bs, ite_self, e_el, e_er, tq_get, tq_set, tq_inc, tb_get_neg, tb_set_neg, and_true, true_and, and_false, false_and, not_false_eq_true, not_true_eq_false] <;> rfl
  · have hpp : pp < n := c10 (by omega)
    obtain ⟨lo, hi, dw, d1, d2, d3, d4, d5, d6, d7⟩ := c13 pp hpp
    have k0 := (c12 pp 0 hpp (by omega)).trans d1
    have k1 := (c12 pp 1 hpp (by omega)).trans d2
    have k2 := (c12 pp 2 hpp (by omega)).trans d3
    have hel : el < dw := by
      have := c11 (by omega)
      rw [d3] at this
      exact (nI_ltI (by omega) (by omega)).mp this
    obtain ⟨lvl, e1, e2, e3⟩ := lv_all (N := N) (T := t + 1) (v := (sg, ((nI 12, nI 3, 12 * 3, tp), nI n, nI pp, nI el), dtv f1 f2 f3, lgv f o p nn, nI (t + 1), nI fl, nI th, nI gp, nI tl)) (w := ((804, upd g 0 (nI (t + 1))), (n2, sv), sm, thr, (n3, tx), txl, pl, (n4, rd), rm, so, wr, fo, (n5, bf), la)) (lv := lv0) hN rfl hS' hg00 (by omega) rfl ((hgs 1 (by omega)).trans b7) b1 rfl
    have hL : ∀ g1 : Nat → Int32, (∀ k, k ≠ 9 → k < 106 → g1 k = upd g 0 (nI (t + 1)) k) → ∀ c, c < 32 → sX11_levelNow N ((804, g1), (n2, sv), sm, thr, (n3, tx), txl, pl, (n4, rd), rm, so, wr, fo, (n5, bf), la) (nI c) = some (lvl c) := by
      intro g1 hg1 c hc
      obtain ⟨lvl', e1', e2', -⟩ := lv_all (N := N) (T := t + 1) (v := (sg, ((nI 12, nI 3, 12 * 3, tp), nI n, nI pp, nI el), dtv f1 f2 f3, lgv f o p nn, nI (t + 1), nI fl, nI th, nI gp, nI tl)) (w := ((804, g1), (n2, sv), sm, thr, (n3, tx), txl, pl, (n4, rd), rm, so, wr, fo, (n5, bf), la)) (lv := lv0) hN rfl (Rsig_cg (fun k hk => (hg1 k (by omega) (by omega)).symm) hS') ((hg1 0 (by omega) (by omega)).trans hg00) (by omega) rfl ((hg1 1 (by omega) (by omega)).trans ((hgs 1 (by omega)).trans b7)) b1 rfl
      rw [e1] at e1'
      have := Option.some.inj e1'
      rw [this]
      exact e2' c hc
    have gh7 : upd g 0 (nI (t + 1)) 7 = nI pp := (hgs 7 (by omega)).trans c5
    have ghlo : upd g 0 (nI (t + 1)) (70 + 3 * pp) = nI lo := (hgs _ (by omega)).trans d1
    obtain ⟨f1', f2', f', o', p', n', od', g', l1, l2, l3, l4, l5⟩ := tk_loop (N := N) (T := t + 1) (t0 := t) (fl := fl) (th := th) (np := n) (sg := sg) (lv0 := lv0) (lvl := lvl) (F := upd g 0 (nI (t + 1))) (G0 := upd g 0 (nI (t + 1))) (pp2 := nI pp) (pp3 := nI el) (gp := nI gp) (tl := nI tl) hN k0 k1 d4 d5 (by omega) (by omega) b2 gh7 hg00 ((hgs 2 (by omega)).trans b8) ((hgs _ (by omega)).trans d2) e3 hL 32 0 (by omega) f1 f2 f3 f o p nn od (upd g 0 (nI (t + 1))) (fun _ _ _ => rfl) (by
      obtain ⟨q1, q2, q3⟩ := RDB_cg hD2 (fun k hk => (hgs k (by omega)).symm)
      refine ⟨q1, q2, fun c hc => ?_⟩
      obtain ⟨ob, r1, r2⟩ := q3 c hc
      refine ⟨ob, ?_, r2⟩
      dsimp only
      rw [if_neg (by omega)]
      exact r1) ((RE_cg hE2 (fun k hk => (hgs k (by omega)).symm)).mono (by omega))
    have l1 := l1 N (by omega)
    obtain ⟨z, l2⟩ := l2 N (by omega)
    have em : max lo (min 0 (hi + 1)) = lo := by omega
    rw [em, Nat.sub_self, Nat.sub_zero] at l2
    have l0 : ∀ k, k ≠ 9 → k < 138 → k ≠ 0 → g' k = g k := fun k q1 q2 q3 => (l3 k q1 q2).trans (hgs k q3)
    have g8 : g' 8 = nI el := (l0 8 (by omega) (by omega) (by omega)).trans c7
    have g6 : g' 6 = nI n := (l0 6 (by omega) (by omega) (by omega)).trans c3
    have g7 : g' 7 = nI pp := (l0 7 (by omega) (by omega) (by omega)).trans c5
    have gd : g' (70 + 3 * pp + 2) = nI dw := (l0 _ (by omega) (by omega) (by omega)).trans d3
    have hst : ∀ g2 : Nat → Int32, (∀ k, k ≠ 7 → k ≠ 8 → g2 k = g' k) → ∀ pp' el', g2 7 = nI pp' → g2 8 = nI el' → pp' < n → el' < 20 → nI el' < g' (70 + 3 * pp' + 2) → STx (sg, ((nI 12, nI 3, 12 * 3, tp), nI n, nI pp', nI el'), dtv f1' f2' f3, lgv f' o' p' n', nI (t + 1), nI fl, nI th, nI gp, nI tl) g2 (t + 1) := by
      intro g2 hg2 pp' el' x1 x2 x3 x4 x5
      have y : ∀ k, k ≠ 7 → k ≠ 8 → k ≠ 9 → k < 138 → k ≠ 0 → g2 k = g k := fun k q1 q2 q3 q4 q5 => (hg2 k q1 q2).trans (l0 k q3 q4 q5)
      refine ⟨Rsig_cg (fun k hk => (y k (by omega) (by omega) (by omega) (by omega) (by omega)).symm) hS, ⟨TB.mk 12 3 tp, n, pp', el', c1, rfl, (y 6 (by omega) (by omega) (by omega) (by omega) (by omega)).trans c3, rfl, x1, rfl, x2, x4, by omega, fun _ => x3, fun _ => ?_, fun i j hi hj => ?_, fun i hi => ?_⟩, ?_, RDB.det (RDB_cg l4 (fun k hk => (hg2 k (by omega) (by omega)).symm)) (fun c hc => Nat.le_refl _), (RE_cg l5 (fun k hk => (hg2 k (by omega) (by omega)).symm)).rev, fl, th, gp, tl, b1, b2, b3, b4, b5, rfl, ?_, ?_, ?_, ?_⟩
      · rw [hg2 _ (by omega) (by omega)]; exact x5
      · rw [y _ (by omega) (by omega) (by omega) (by omega) (by omega)]; exact c12 i j hi hj
      · obtain ⟨a, b, c, w1, w2, w3, w4⟩ := c13 i hi
        exact ⟨a, b, c, (y _ (by omega) (by omega) (by omega) (by omega) (by omega)).trans w1, (y _ (by omega) (by omega) (by omega) (by omega) (by omega)).trans w2, (y _ (by omega) (by omega) (by omega) (by omega) (by omega)).trans w3, w4⟩
      · exact (hg2 0 (by omega) (by omega)).trans ((l3 0 (by omega) (by omega)).trans hg00)
      · exact (y 1 (by omega) (by omega) (by omega) (by omega) (by omega)).trans b7
      · exact (y 2 (by omega) (by omega) (by omega) (by omega) (by omega)).trans b8
      · exact (y 3 (by omega) (by omega) (by omega) (by omega) (by omega)).trans b9
      · exact (y 4 (by omega) (by omega) (by omega) (by omega) (by omega)).trans b10
    by_cases hd : el + 1 < dw
    · refine ⟨_, upd g' 8 (nI (el + 1)), lvl, ?_, ?_, hst _ (fun k q1 q2 => e_ne q2) pp (el + 1) ?_ (e_eq rfl) hpp (by omega) ?_⟩
      · simp (disch := omega) only [sX8_passTick, sX5_nextStep, e1, l1, sX5_passTick, k2, ↓reduceIte, e_lt, e_bd, e_grd, e_clamp, e_l0, e_l1, e_l2, e_l3, e_l4, e_l5, e_l6, e_l7, e_l8, e_l9, e_l10, e_l12, e_l13, e_l20, e_l31, e_l32, e_l45, e_l48, e_l50, e_l57, e_l58, e_l59, e_l64, e_l70, e_l100, e_l106, e_l127, e_l138, e_l554, e_l799, e_l804, e_l1000, e_l2000, e_l2412, e_l100000, e_m1, nI_add, ni_mul, ni_sub, nI_clamp, e_ltT, e_ltF, e_leT, e_leF, e_eqT, e_eqF, e_mE, e_Em, e_mlt, e_mle, e_ltm, e_lem, e_gz, e_gt, e_bs, ite_self, e_el, e_er, tq_get, tq_set, tq_inc, tb_get_neg, tb_set_neg, and_true, true_and, and_false, false_and, not_false_eq_true, not_true_eq_false] <;> rfl
      · have hne : ¬ el + 1 = dw := by omega
        simp (disch := omega) only [sX11_ticks, g0, c3', gh7, ghlo, l2, e_ne, e_eq, g8, gd, hne, ↓reduceIte, e_lt, e_bd, e_grd, e_clamp, e_l0, e_l1, e_l2, e_l3, e_l4, e_l5, e_l6, e_l7, e_l8, e_l9, e_l10, e_l12, e_l13, e_l20, e_l31, e_l32, e_l45, e_l48, e_l50, e_l57, e_l58, e_l59, e_l64, e_l70, e_l100, e_l106, e_l127, e_l138, e_l554, e_l799, e_l804, e_l1000, e_l2000, e_l2412, e_l100000, e_m1, nI_add, ni_mul, ni_sub, nI_clamp, e_ltT, e_ltF, e_leT, e_leF, e_eqT, e_eqF, e_mE, e_Em, e_mlt, e_mle, e_ltm, e_lem, e_gz, e_gt, e_bs, ite_self, e_el, e_er, tq_get, tq_set, tq_inc, tb_get_neg, tb_set_neg, and_true, true_and, and_false, false_and, not_false_eq_true, not_true_eq_false] <;> rfl
      · rw [e_ne (by omega)]; exact g7
      · rw [gd]; exact nI_lt hd (by omega)
    · have hdw : dw = el + 1 := by omega
      subst hdw
      have hpos : ∀ i, i < n → nI 0 < g' (70 + 3 * i + 2) := by
        intro i hi
        obtain ⟨a, b, c, w1, w2, w3, w4, w5, w6, w7⟩ := c13 i hi
        rw [l0 _ (by omega) (by omega) (by omega), w3]
        exact nI_lt (by omega) (by omega)
      have hrem : nI (pp + 1) - nI (pp + 1) / nI n * nI n = nI ((pp + 1) % n) := pk_rem (by omega) (by omega) (by omega)
      by_cases hw : pp + 1 < n
      · have hmod : (pp + 1) % n = pp + 1 := Nat.mod_eq_of_lt hw
        rw [hmod] at hrem
        refine ⟨_, upd (upd (upd g' 8 (nI (el + 1))) 8 (nI 0)) 7 (nI (pp + 1)), lvl, ?_, ?_, hst _ (fun k q1 q2 => by rw [e_ne q1, e_ne q2, e_ne q2]) (pp + 1) 0 (e_eq rfl) ?_ hw (by omega) (hpos _ hw)⟩
        · simp (disch := omega) only [sX8_passTick, sX5_nextStep, e1, l1, sX5_passTick, k2, ↓reduceIte, e_lt, e_bd, e_grd, e_clamp, e_l0, e_l1, e_l2, e_l3, e_l4, e_l5, e_l6, e_l7, e_l8, e_l9, e_l10, e_l12, e_l13, e_l20, e_l31, e_l32, e_l45, e_l48, e_l50, e_l57, e_l58, e_l59, e_l64, e_l70, e_l100, e_l106, e_l127, e_l138, e_l554, e_l799, e_l804, e_l1000, e_l2000, e_l2412, e_l100000, e_m1, nI_add, ni_mul, ni_sub, nI_clamp, e_ltT, e_ltF, e_leT, e_leF, e_eqT, e_eqF, e_mE, e_Em, e_mlt, e_mle, e_ltm, e_lem, e_gz, e_gt, e_bs, ite_self, e_el, e_er, tq_get, tq_set, tq_inc, tb_get_neg, tb_set_neg, and_true, true_and, and_false, false_and, not_false_eq_true, not_true_eq_false] <;> rfl
        · simp (disch := omega) only [sX11_ticks, g0, c3', gh7, ghlo, l2, e_ne, e_eq, g8, gd, g6, g7, hrem, ↓reduceIte, e_lt, e_bd, e_grd, e_clamp, e_l0, e_l1, e_l2, e_l3, e_l4, e_l5, e_l6, e_l7, e_l8, e_l9, e_l10, e_l12, e_l13, e_l20, e_l31, e_l32, e_l45, e_l48, e_l50, e_l57, e_l58, e_l59, e_l64, e_l70, e_l100, e_l106, e_l127, e_l138, e_l554, e_l799, e_l804, e_l1000, e_l2000, e_l2412, e_l100000, e_m1, nI_add, ni_mul, ni_sub, nI_clamp, e_ltT, e_ltF, e_leT, e_leF, e_eqT, e_eqF, e_mE, e_Em, e_mlt, e_mle, e_ltm, e_lem, e_gz, e_gt, e_bs, ite_self, e_el, e_er, tq_get, tq_set, tq_inc, tb_get_neg, tb_set_neg, and_true, true_and, and_false, false_and, not_false_eq_true, not_true_eq_false] <;> rfl
        · rw [e_ne (by omega), e_eq rfl]
      · have hmod : (pp + 1) % n = 0 := by
          have : pp + 1 = n := by omega
          rw [this, Nat.mod_self]
        rw [hmod] at hrem
        refine ⟨_, upd (upd (upd g' 8 (nI (el + 1))) 8 (nI 0)) 7 (nI 0), lvl, ?_, ?_, hst _ (fun k q1 q2 => by rw [e_ne q1, e_ne q2, e_ne q2]) 0 0 (e_eq rfl) ?_ (by omega) (by omega) (hpos 0 (by omega))⟩
        · simp (disch := omega) only [sX8_passTick, sX5_nextStep, e1, l1, sX5_passTick, k2, ↓reduceIte, e_lt, e_bd, e_grd, e_clamp, e_l0, e_l1, e_l2, e_l3, e_l4, e_l5, e_l6, e_l7, e_l8, e_l9, e_l10, e_l12, e_l13, e_l20, e_l31, e_l32, e_l45, e_l48, e_l50, e_l57, e_l58, e_l59, e_l64, e_l70, e_l100, e_l106, e_l127, e_l138, e_l554, e_l799, e_l804, e_l1000, e_l2000, e_l2412, e_l100000, e_m1, nI_add, ni_mul, ni_sub, nI_clamp, e_ltT, e_ltF, e_leT, e_leF, e_eqT, e_eqF, e_mE, e_Em, e_mlt, e_mle, e_ltm, e_lem, e_gz, e_gt, e_bs, ite_self, e_el, e_er, tq_get, tq_set, tq_inc, tb_get_neg, tb_set_neg, and_true, true_and, and_false, false_and, not_false_eq_true, not_true_eq_false] <;> rfl
        · simp (disch := omega) only [sX11_ticks, g0, c3', gh7, ghlo, l2, e_ne, e_eq, g8, gd, g6, g7, hrem, ↓reduceIte, e_lt, e_bd, e_grd, e_clamp, e_l0, e_l1, e_l2, e_l3, e_l4, e_l5, e_l6, e_l7, e_l8, e_l9, e_l10, e_l12, e_l13, e_l20, e_l31, e_l32, e_l45, e_l48, e_l50, e_l57, e_l58, e_l59, e_l64, e_l70, e_l100, e_l106, e_l127, e_l138, e_l554, e_l799, e_l804, e_l1000, e_l2000, e_l2412, e_l100000, e_m1, nI_add, ni_mul, ni_sub, nI_clamp, e_ltT, e_ltF, e_leT, e_leF, e_eqT, e_eqF, e_mE, e_Em, e_mlt, e_mle, e_ltm, e_lem, e_gz, e_gt, e_bs, ite_self, e_el, e_er, tq_get, tq_set, tq_inc, tb_get_neg, tb_set_neg, and_true, true_and, and_false, false_and, not_false_eq_true, not_true_eq_false] <;> rfl
        · rw [e_ne (by omega), e_eq rfl]
