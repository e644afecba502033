/-! the plan as a text -/
def fdb (f : Nat → Int32) (L idx : Nat) : Int32 := if idx < L then f idx else m1
theorem fdb_put {f : Nat → Int32} {L idx : Nat} {x : Int32} : (if L = idx then x else fdb f L idx) = fdb (upd f L x) (L + 1) idx := by
  unfold fdb
  by_cases q : L = idx
  · rw [if_pos q, if_pos (by omega), e_eq q.symm]
  · rw [if_neg q]
    by_cases q2 : idx < L
    · rw [if_pos q2, if_pos (by omega), e_ne (fun z => q z.symm)]
    · rw [if_neg q2, if_neg (by omega)]
section PB
variable {idx n2 n3 n4 n5 : Nat} {g sv tx rd bf : Nat → Int32} {sm thr txl pl rm la : Int32}
theorem c_pt {f : Nat → Int32} {L : Nat} {x : Int32} (hL : L < 108) : sX0_put ((108, f), nI L) x = some ((108, upd f L x), nI (L + 1)) := by
  simp (disch := omega) only [sX0_put, c_within, ↓reduceIte, e_lt, e_bd, e_grd, e_clamp, e_l0, e_l1, e_l2, e_l3, e_l4, e_l5, e_l6, e_l7, e_l8, e_l9, e_l10, e_l12, e_l13, e_l20, e_l31, e_l32, e_l45, e_l48, e_l50, e_l57, e_l58, e_l59, e_l64, e_l70, e_l100, e_l106, e_l127, e_l138, e_l554, e_l799, e_l804, e_l1000, e_l2000, e_l2412, e_l100000, e_m1, nI_add, ni_mul, ni_sub, nI_clamp, e_ltT, e_ltF, e_leT, e_leF, e_eqT, e_eqF, e_mE, e_Em, e_mlt, e_mle, e_ltm, e_lem, e_gz, e_gt, e_bs, ite_self, e_el, e_er, tq_get, tq_set, tq_inc, tb_get_neg, tb_set_neg, and_true, true_and, and_false, false_and, not_false_eq_true, not_true_eq_false] <;> rfl
theorem m_wt {f : Nat → Int32} {L : Nat} {x : Int32} (hL : L < 108) (hi : idx < 2 ^ 31) : sX11_writes ((804, g), (n2, sv), sm, thr, (n3, tx), txl, pl, (n4, rd), rm, nI idx, (nI L), (fdb f L idx), (n5, bf), la) x = some ((804, g), (n2, sv), sm, thr, (n3, tx), txl, pl, (n4, rd), rm, nI idx, (nI (L + 1)), (fdb (upd f L x) (L + 1) idx), (n5, bf), la) := by
  rw [← fdb_put]
  by_cases q : L = idx
  · subst q
    simp (disch := omega) only [sX11_writes, ↓reduceIte, e_lt, e_bd, e_grd, e_clamp, e_l0, e_l1, e_l2, e_l3, e_l4, e_l5, e_l6, e_l7, e_l8, e_l9, e_l10, e_l12, e_l13, e_l20, e_l31, e_l32, e_l45, e_l48, e_l50, e_l57, e_l58, e_l59, e_l64, e_l70, e_l100, e_l106, e_l127, e_l138, e_l554, e_l799, e_l804, e_l1000, e_l2000, e_l2412, e_l100000, e_m1, nI_add, ni_mul, ni_sub, nI_clamp, e_ltT, e_ltF, e_leT, e_leF, e_eqT, e_eqF, e_mE, e_Em, e_mlt, e_mle, e_ltm, e_lem, e_gz, e_gt, e_bs, ite_self, e_el, e_er, tq_get, tq_set, tq_inc, tb_get_neg, tb_set_neg, and_true, true_and, and_false, false_and, not_false_eq_true, not_true_eq_false] <;> rfl
  · simp (disch := omega) only [sX11_writes, q, ↓reduceIte, e_lt, e_bd, e_grd, e_clamp, e_l0, e_l1, e_l2, e_l3, e_l4, e_l5, e_l6, e_l7, e_l8, e_l9, e_l10, e_l12, e_l13, e_l20, e_l31, e_l32, e_l45, e_l48, e_l50, e_l57, e_l58, e_l59, e_l64, e_l70, e_l100, e_l106, e_l127, e_l138, e_l554, e_l799, e_l804, e_l1000, e_l2000, e_l2412, e_l100000, e_m1, nI_add, ni_mul, ni_sub, nI_clamp, e_ltT, e_ltF, e_leT, e_leF, e_eqT, e_eqF, e_mE, e_Em, e_mlt, e_mle, e_ltm, e_lem, e_gz, e_gt, e_bs, ite_self, e_el, e_er, tq_get, tq_set, tq_inc, tb_get_neg, tb_set_neg, and_true, true_and, and_false, false_and, not_false_eq_true, not_true_eq_false] <;> rfl
theorem w_num {f : Nat → Int32} {L k : Nat} (hL : L + 2 ≤ 108) (hk : k ≤ 99) (hi : idx < 2 ^ 31) : ∃ f' L', L' ≤ L + 2 ∧ sX0_putNumber ((108, f), nI L) (nI k) = some ((108, f'), nI L') ∧ sX11_writesNumber ((804, g), (n2, sv), sm, thr, (n3, tx), txl, pl, (n4, rd), rm, nI idx, (nI L), (fdb f L idx), (n5, bf), la) (nI k) = some ((804, g), (n2, sv), sm, thr, (n3, tx), txl, pl, (n4, rd), rm, nI idx, (nI L'), (fdb f' L' idx), (n5, bf), la) := by
  by_cases q : k < 10
  · have a1 := fun x => c_pt (f := f) (L := L) (x := x) (by omega)
    have a2 := fun x => m_wt (f := f) (L := L) (x := x) (g := g) (sv := sv) (tx := tx) (rd := rd) (bf := bf) (n2 := n2) (n3 := n3) (n4 := n4) (n5 := n5) (sm := sm) (thr := thr) (txl := txl) (pl := pl) (rm := rm) (la := la) (by omega) hi
    refine ⟨upd f L (nI 48 + (nI k - nI k / nI 10 * nI 10)), L + 1, by omega, ?_, ?_⟩
    · simp (disch := omega) only [sX0_putNumber, e_l10, e_l48, e_ltT, ↓reduceIte, e_bd, e_bs, a1]
    · simp (disch := omega) only [sX11_writesNumber, e_l10, e_l48, e_l9, e_leT, ↓reduceIte, e_bd, e_bs, a2]
  · have a1 := fun (f : Nat → Int32) (L : Nat) (h : L < 108) x => c_pt (f := f) (L := L) (x := x) h
    have a2 := fun (f : Nat → Int32) (L : Nat) (h : L < 108) x => m_wt (f := f) (L := L) (x := x) (g := g) (sv := sv) (tx := tx) (rd := rd) (bf := bf) (n2 := n2) (n3 := n3) (n4 := n4) (n5 := n5) (sm := sm) (thr := thr) (txl := txl) (pl := pl) (rm := rm) (la := la) h hi
    refine ⟨upd (upd f L (nI 48 + nI k / nI 10)) (L + 1) (nI 48 + (nI k - nI k / nI 10 * nI 10)), L + 1 + 1, by omega, ?_, ?_⟩
    · simp (disch := omega) only [sX0_putNumber, e_l10, e_l48, e_ltF, ↓reduceIte, e_bd, e_bs, a1]
    · simp (disch := omega) only [sX11_writesNumber, e_l10, e_l48, e_l9, e_leF, ↓reduceIte, e_bd, e_bs, a2]
theorem w_loop {tp : Nat → Int32} {n : Nat} {pp2 pp3 : Int32} (hi : idx < 2 ^ 31) (h6 : g 6 = nI n) (hn : n ≤ 12) (hk : ∀ i j, i < n → j < 3 → tp (i * 3 + j) = g (70 + 3 * i + j)) (hok : ∀ i, i < n → stepOk g i) : ∀ (d i L : Nat) (f : Nat → Int32), i + d = n → L ≤ 9 * i → ∃ f' L', L' ≤ 108 ∧ (∀ M, d < M → qX5_write_7 ((nI 12, nI 3, 12 * 3, tp), nI n, pp2, pp3) M (nI i) 108 f (nI L) = some (nI n, 108, f', nI L')) ∧ ∀ M, d < M → qX11_planByte_36 M (nI i) 804 g n2 sv sm thr n3 tx txl pl n4 rd rm (nI idx) (nI L) (fdb f L idx) n5 bf la = some (nI n, 804, g, n2, sv, sm, thr, n3, tx, txl, pl, n4, rd, rm, nI idx, (nI L'), (fdb f' L' idx), n5, bf, la) := by
  intro d
  induction d with
  | zero =>
    intro i L f hi' hL
    have : i = n := by omega
    subst this
    refine ⟨f, L, by omega, fun M hM => ?_, fun M hM => ?_⟩
    · obtain ⟨M, rfl⟩ : ∃ N', M = N' + 1 := ⟨M - 1, by omega⟩
      rw [qX5_write_7]
      simp (disch := omega) only [↓reduceIte, e_lt, e_bd, e_grd, e_clamp, e_l0, e_l1, e_l2, e_l3, e_l4, e_l5, e_l6, e_l7, e_l8, e_l9, e_l10, e_l12, e_l13, e_l20, e_l31, e_l32, e_l45, e_l48, e_l50, e_l57, e_l58, e_l59, e_l64, e_l70, e_l100, e_l106, e_l127, e_l138, e_l554, e_l799, e_l804, e_l1000, e_l2000, e_l2412, e_l100000, e_m1, nI_add, ni_mul, ni_sub, nI_clamp, e_ltT, e_ltF, e_leT, e_leF, e_eqT, e_eqF, e_mE, e_Em, e_mlt, e_mle, e_ltm, e_lem, e_gz, e_gt, e_bs, ite_self, e_el, e_er, tq_get, tq_set, tq_inc, tb_get_neg, tb_set_neg, and_true, true_and, and_false, false_and, not_false_eq_true, not_true_eq_false] <;> rfl
    · obtain ⟨M, rfl⟩ : ∃ N', M = N' + 1 := ⟨M - 1, by omega⟩
      rw [qX11_planByte_36]
      simp (disch := omega) only [h6, ↓reduceIte, e_lt, e_bd, e_grd, e_clamp, e_l0, e_l1, e_l2, e_l3, e_l4, e_l5, e_l6, e_l7, e_l8, e_l9, e_l10, e_l12, e_l13, e_l20, e_l31, e_l32, e_l45, e_l48, e_l50, e_l57, e_l58, e_l59, e_l64, e_l70, e_l100, e_l106, e_l127, e_l138, e_l554, e_l799, e_l804, e_l1000, e_l2000, e_l2412, e_l100000, e_m1, nI_add, ni_mul, ni_sub, nI_clamp, e_ltT, e_ltF, e_leT, e_leF, e_eqT, e_eqF, e_mE, e_Em, e_mlt, e_mle, e_ltm, e_lem, e_gz, e_gt, e_bs, ite_self, e_el, e_er, tq_get, tq_set, tq_inc, tb_get_neg, tb_set_neg, and_true, true_and, and_false, false_and, not_false_eq_true, not_true_eq_false] <;> rfl
  | succ d ih =>
    intro i L f hi' hL
    obtain ⟨lo, hh, dw, d1, d2, d3, d4, d5, d6, d7⟩ := hok i (by omega)
    have k0 := (hk i 0 (by omega) (by omega)).trans d1
    have k1 := (hk i 1 (by omega) (by omega)).trans d2
    have k2 := (hk i 2 (by omega) (by omega)).trans d3
    have P1 := fun (f : Nat → Int32) (L : Nat) (h : L < 108) x => c_pt (f := f) (L := L) (x := x) h
    have P2 := fun (f : Nat → Int32) (L : Nat) (h : L < 108) x => m_wt (f := f) (L := L) (x := x) (g := g) (sv := sv) (tx := tx) (rd := rd) (bf := bf) (n2 := n2) (n3 := n3) (n4 := n4) (n5 := n5) (sm := sm) (thr := thr) (txl := txl) (pl := pl) (rm := rm) (la := la) h hi
    obtain ⟨f1, L1, x1, y1, z1⟩ := w_num (f := f) (L := L) (k := lo) (g := g) (sv := sv) (tx := tx) (rd := rd) (bf := bf) (n2 := n2) (n3 := n3) (n4 := n4) (n5 := n5) (sm := sm) (thr := thr) (txl := txl) (pl := pl) (rm := rm) (la := la) (by omega) (by omega) hi
    by_cases q : hh = lo
    · subst q
      obtain ⟨f2, L2, x2, y2, z2⟩ := w_num (f := upd f1 L1 (nI 58)) (L := L1 + 1) (k := dw) (g := g) (sv := sv) (tx := tx) (rd := rd) (bf := bf) (n2 := n2) (n3 := n3) (n4 := n4) (n5 := n5) (sm := sm) (thr := thr) (txl := txl) (pl := pl) (rm := rm) (la := la) (by omega) (by omega) hi
      obtain ⟨f', L', e0, e1, e2⟩ := ih (i + 1) (L2 + 1) (upd f2 L2 (nI 59)) (by omega) (by omega)
      refine ⟨f', L', e0, fun M hM => ?_, fun M hM => ?_⟩
      · obtain ⟨M, rfl⟩ : ∃ N', M = N' + 1 := ⟨M - 1, by omega⟩
        have e1 := e1 M (by omega)
        rw [qX5_write_7]
        simp (disch := omega) only [k0, k1, k2, y1, P1, y2, e1, ↓reduceIte, e_lt, e_bd, e_grd, e_clamp, e_l0, e_l1, e_l2, e_l3, e_l4, e_l5, e_l6, e_l7, e_l8, e_l9, e_l10, e_l12, e_l13, e_l20, e_l31, e_l32, e_l45, e_l48, e_l50, e_l57, e_l58, e_l59, e_l64, e_l70, e_l100, e_l106, e_l127, e_l138, e_l554, e_l799, e_l804, e_l1000, e_l2000, e_l2412, e_l100000, e_m1, nI_add, ni_mul, ni_sub, nI_clamp, e_ltT, e_ltF, e_leT, e_leF, e_eqT, e_eqF, e_mE, e_Em, e_mlt, e_mle, e_ltm, e_lem, e_gz, e_gt, e_bs, ite_self, e_el, e_er, tq_get, tq_set, tq_inc, tb_get_neg, tb_set_neg, and_true, true_and, and_false, false_and, not_false_eq_true, not_true_eq_false] <;> rfl
      · obtain ⟨M, rfl⟩ : ∃ N', M = N' + 1 := ⟨M - 1, by omega⟩
        have e2 := e2 M (by omega)
        rw [qX11_planByte_36]
        simp (disch := omega) only [h6, d1, d2, d3, z1, P2, z2, e2, ↓reduceIte, e_lt, e_bd, e_grd, e_clamp, e_l0, e_l1, e_l2, e_l3, e_l4, e_l5, e_l6, e_l7, e_l8, e_l9, e_l10, e_l12, e_l13, e_l20, e_l31, e_l32, e_l45, e_l48, e_l50, e_l57, e_l58, e_l59, e_l64, e_l70, e_l100, e_l106, e_l127, e_l138, e_l554, e_l799, e_l804, e_l1000, e_l2000, e_l2412, e_l100000, e_m1, nI_add, ni_mul, ni_sub, nI_clamp, e_ltT, e_ltF, e_leT, e_leF, e_eqT, e_eqF, e_mE, e_Em, e_mlt, e_mle, e_ltm, e_lem, e_gz, e_gt, e_bs, ite_self, e_el, e_er, tq_get, tq_set, tq_inc, tb_get_neg, tb_set_neg, and_true, true_and, and_false, false_and, not_false_eq_true, not_true_eq_false] <;> rfl
    · obtain ⟨f3, L3, x3, y3, z3⟩ := w_num (f := upd f1 L1 (nI 45)) (L := L1 + 1) (k := hh) (g := g) (sv := sv) (tx := tx) (rd := rd) (bf := bf) (n2 := n2) (n3 := n3) (n4 := n4) (n5 := n5) (sm := sm) (thr := thr) (txl := txl) (pl := pl) (rm := rm) (la := la) (by omega) (by omega) hi
      obtain ⟨f2, L2, x2, y2, z2⟩ := w_num (f := upd f3 L3 (nI 58)) (L := L3 + 1) (k := dw) (g := g) (sv := sv) (tx := tx) (rd := rd) (bf := bf) (n2 := n2) (n3 := n3) (n4 := n4) (n5 := n5) (sm := sm) (thr := thr) (txl := txl) (pl := pl) (rm := rm) (la := la) (by omega) (by omega) hi
      obtain ⟨f', L', e0, e1, e2⟩ := ih (i + 1) (L2 + 1) (upd f2 L2 (nI 59)) (by omega) (by omega)
      refine ⟨f', L', e0, fun M hM => ?_, fun M hM => ?_⟩
      · obtain ⟨M, rfl⟩ : ∃ N', M = N' + 1 := ⟨M - 1, by omega⟩
        have e1 := e1 M (by omega)
        rw [qX5_write_7]
        simp (disch := omega) only [k0, k1, k2, y1, P1, y2, y3, e1, ↓reduceIte, e_lt, e_bd, e_grd, e_clamp, e_l0, e_l1, e_l2, e_l3, e_l4, e_l5, e_l6, e_l7, e_l8, e_l9, e_l10, e_l12, e_l13, e_l20, e_l31, e_l32, e_l45, e_l48, e_l50, e_l57, e_l58, e_l59, e_l64, e_l70, e_l100, e_l106, e_l127, e_l138, e_l554, e_l799, e_l804, e_l1000, e_l2000, e_l2412, e_l100000, e_m1, nI_add, ni_mul, ni_sub, nI_clamp, e_ltT, e_ltF, e_leT, e_leF, e_eqT, e_eqF, e_mE, e_Em, e_mlt, e_mle, e_ltm, e_lem, e_gz, e_gt, e_bs, ite_self, e_el, e_er, tq_get, tq_set, tq_inc, tb_get_neg, tb_set_neg, and_true, true_and, and_false, false_and, not_false_eq_true, not_true_eq_false] <;> rfl
      · obtain ⟨M, rfl⟩ : ∃ N', M = N' + 1 := ⟨M - 1, by omega⟩
        have e2 := e2 M (by omega)
        rw [qX11_planByte_36]
        simp (disch := omega) only [h6, d1, d2, d3, z1, P2, z2, z3, e2, ↓reduceIte, e_lt, e_bd, e_grd, e_clamp, e_l0, e_l1, e_l2, e_l3, e_l4, e_l5, e_l6, e_l7, e_l8, e_l9, e_l10, e_l12, e_l13, e_l20, e_l31, e_l32, e_l45, e_l48, e_l50, e_l57, e_l58, e_l59, e_l64, e_l70, e_l100, e_l106, e_l127, e_l138, e_l554, e_l799, e_l804, e_l1000, e_l2000, e_l2412, e_l100000, e_m1, nI_add, ni_mul, ni_sub, nI_clamp, e_ltT, e_ltF, e_leT, e_leF, e_eqT, e_eqF, e_mE, e_Em, e_mlt, e_mle, e_ltm, e_lem, e_gz, e_gt, e_bs, ite_self, e_el, e_er, tq_get, tq_set, tq_inc, tb_get_neg, tb_set_neg, and_true, true_and, and_false, false_and, not_false_eq_true, not_true_eq_false] <;> rfl
end PB
theorem pu_planByte {N : Nat} (hN : 5000 ≤ N) : PU_planByte RR N := by
  intro cn v w p1 hcn h
  have hz : w.1.1 = 804 := h.1.1
  by_cases hA : nI 0 ≤ p1
  case neg =>
    have hA' : p1 < nI 0 := fa_of_nle hA
    refine Or.inr ⟨(nI 0, setTh w (nI 1)), ?_, ?_, rfl, h.th (nI 1)⟩
    · simp (disch := omega) only [sX10_planByte, hA, ↓reduceIte, e_lt, e_bd, e_grd, e_clamp, e_l0, e_l1, e_l2, e_l3, e_l4, e_l5, e_l6, e_l7, e_l8, e_l9, e_l10, e_l12, e_l13, e_l20, e_l31, e_l32, e_l45, e_l48, e_l50, e_l57, e_l58, e_l59, e_l64, e_l70, e_l100, e_l106, e_l127, e_l138, e_l554, e_l799, e_l804, e_l1000, e_l2000, e_l2412, e_l100000, e_m1, nI_add, ni_mul, ni_sub, nI_clamp, e_ltT, e_ltF, e_leT, e_leF, e_eqT, e_eqF, e_mE, e_Em, e_mlt, e_mle, e_ltm, e_lem, e_gz, e_gt, e_bs, ite_self, e_el, e_er, tq_get, tq_set, tq_inc, tb_get_neg, tb_set_neg, and_true, true_and, and_false, false_and, not_false_eq_true, not_true_eq_false] <;> rfl
    · simp (disch := omega) only [sX11_planByte, hA', m_go0, ↓reduceIte, e_lt, e_bd, e_grd, e_clamp, e_l0, e_l1, e_l2, e_l3, e_l4, e_l5, e_l6, e_l7, e_l8, e_l9, e_l10, e_l12, e_l13, e_l20, e_l31, e_l32, e_l45, e_l48, e_l50, e_l57, e_l58, e_l59, e_l64, e_l70, e_l100, e_l106, e_l127, e_l138, e_l554, e_l799, e_l804, e_l1000, e_l2000, e_l2412, e_l100000, e_m1, nI_add, ni_mul, ni_sub, nI_clamp, e_ltT, e_ltF, e_leT, e_leF, e_eqT, e_eqF, e_mE, e_Em, e_mlt, e_mle, e_ltm, e_lem, e_gz, e_gt, e_bs, ite_self, e_el, e_er, tq_get, tq_set, tq_inc, tb_get_neg, tb_set_neg, and_true, true_and, and_false, false_and, not_false_eq_true, not_true_eq_false] <;> rfl
  obtain ⟨idx, hi, rfl⟩ := nI_of (fun q => (fa_of_lt q).2.1 hA)
  have hA' : ¬ nI idx < nI 0 := fun q => (fa_of_lt q).2.1 hA
  obtain ⟨⟨n1, g⟩, ⟨n2, sv⟩, sm, thr, ⟨n3, tx⟩, txl, pl, ⟨n4, rd⟩, rm, so, wr, fo, ⟨n5, bf⟩, la⟩ := w
  dsimp only at hz
  subst hz
  obtain ⟨hSZ, hTX, ⟨hS1, ⟨hT, n, pp, el, hn, e1, e2, e3, e4, e5, e6, e7, e8, e9, e10, hk, hok⟩, hS3⟩, m, hm, hH⟩ := id h
  obtain ⟨tp, htp⟩ := hT.ex
  have hpn : v.2.2.1.2.1 = ((nI 12, nI 3, 12 * 3, tp), nI n, nI pp, nI el) := by
    rw [← htp, ← e1, ← e3, ← e5]
  rw [htp] at hk
  obtain ⟨f', L', a0, a1, a2⟩ := w_loop (idx := idx) (g := g) (sv := sv) (tx := tx) (rd := rd) (bf := bf) (n2 := n2) (n3 := n3) (n4 := n4) (n5 := n5) (sm := sm) (thr := nI 0) (txl := txl) (pl := pl) (rm := rm) (la := la) (tp := tp) (pp2 := nI pp) (pp3 := nI el) hi e2 hn hk hok n 0 0 v.2.1.1.2 (by omega) (by omega)
  have a1 := a1 N (by omega)
  have a2 := a2 N (by omega)
  have e0 : fdb v.2.1.1.2 0 idx = m1 := if_neg (by omega)
  rw [e0] at a2
  have h108 : v.2.1.1.1 = 108 := hSZ.2.2.2.2.2.2.1
  refine Or.inl ⟨(fdb f' L' idx, (v.1, ((108, f'), nI L'), v.2.2.1, v.2.2.2.1, v.2.2.2.2.1, v.2.2.2.2.2)), (fdb f' L' idx, ((804, g), (n2, sv), sm, nI 0, (n3, tx), txl, pl, (n4, rd), rm, nI idx, nI L', fdb f' L' idx, (n5, bf), la)), ?_, ?_, rfl, rfl, ?_⟩
  · have hb : sX0_byteAt ((108, f'), nI L') (nI idx) = some (fdb f' L' idx) := by
      unfold fdb
      by_cases q : idx < L'
      · rw [if_pos q]
        simp (disch := omega) only [sX0_byteAt, c_within, ↓reduceIte, e_lt, e_bd, e_grd, e_clamp, e_l0, e_l1, e_l2, e_l3, e_l4, e_l5, e_l6, e_l7, e_l8, e_l9, e_l10, e_l12, e_l13, e_l20, e_l31, e_l32, e_l45, e_l48, e_l50, e_l57, e_l58, e_l59, e_l64, e_l70, e_l100, e_l106, e_l127, e_l138, e_l554, e_l799, e_l804, e_l1000, e_l2000, e_l2412, e_l100000, e_m1, nI_add, ni_mul, ni_sub, nI_clamp, e_ltT, e_ltF, e_leT, e_leF, e_eqT, e_eqF, e_mE, e_Em, e_mlt, e_mle, e_ltm, e_lem, e_gz, e_gt, e_bs, ite_self, e_el, e_er, tq_get, tq_set, tq_inc, tb_get_neg, tb_set_neg, and_true, true_and, and_false, false_and, not_false_eq_true, not_true_eq_false] <;> rfl
      · rw [if_neg q]
        by_cases q2 : L' ≤ idx
        · simp (disch := omega) only [sX0_byteAt, c_within, ↓reduceIte, e_lt, e_bd, e_grd, e_clamp, e_l0, e_l1, e_l2, e_l3, e_l4, e_l5, e_l6, e_l7, e_l8, e_l9, e_l10, e_l12, e_l13, e_l20, e_l31, e_l32, e_l45, e_l48, e_l50, e_l57, e_l58, e_l59, e_l64, e_l70, e_l100, e_l106, e_l127, e_l138, e_l554, e_l799, e_l804, e_l1000, e_l2000, e_l2412, e_l100000, e_m1, nI_add, ni_mul, ni_sub, nI_clamp, e_ltT, e_ltF, e_leT, e_leF, e_eqT, e_eqF, e_mE, e_Em, e_mlt, e_mle, e_ltm, e_lem, e_gz, e_gt, e_bs, ite_self, e_el, e_er, tq_get, tq_set, tq_inc, tb_get_neg, tb_set_neg, and_true, true_and, and_false, false_and, not_false_eq_true, not_true_eq_false] <;> rfl
        · omega
    simp (disch := omega) only [sX10_planByte, hA, hpn, sX5_write, h108, a1, hb, ↓reduceIte, e_lt, e_bd, e_grd, e_clamp, e_l0, e_l1, e_l2, e_l3, e_l4, e_l5, e_l6, e_l7, e_l8, e_l9, e_l10, e_l12, e_l13, e_l20, e_l31, e_l32, e_l45, e_l48, e_l50, e_l57, e_l58, e_l59, e_l64, e_l70, e_l100, e_l106, e_l127, e_l138, e_l554, e_l799, e_l804, e_l1000, e_l2000, e_l2412, e_l100000, e_m1, nI_add, ni_mul, ni_sub, nI_clamp, e_ltT, e_ltF, e_leT, e_leF, e_eqT, e_eqF, e_mE, e_Em, e_mlt, e_mle, e_ltm, e_lem, e_gz, e_gt, e_bs, ite_self, e_el, e_er, tq_get, tq_set, tq_inc, tb_get_neg, tb_set_neg, and_true, true_and, and_false, false_and, not_false_eq_true, not_true_eq_false] <;> rfl
  · simp (disch := omega) only [sX11_planByte, hA', m_go11, setTh, a2, ↓reduceIte, e_lt, e_bd, e_grd, e_clamp, e_l0, e_l1, e_l2, e_l3, e_l4, e_l5, e_l6, e_l7, e_l8, e_l9, e_l10, e_l12, e_l13, e_l20, e_l31, e_l32, e_l45, e_l48, e_l50, e_l57, e_l58, e_l59, e_l64, e_l70, e_l100, e_l106, e_l127, e_l138, e_l554, e_l799, e_l804, e_l1000, e_l2000, e_l2412, e_l100000, e_m1, nI_add, ni_mul, ni_sub, nI_clamp, e_ltT, e_ltF, e_leT, e_leF, e_eqT, e_eqF, e_mE, e_Em, e_mlt, e_mle, e_ltm, e_lem, e_gz, e_gt, e_bs, ite_self, e_el, e_er, tq_get, tq_set, tq_inc, tb_get_neg, tb_set_neg, and_true, true_and, and_false, false_and, not_false_eq_true, not_true_eq_false] <;> rfl
  · obtain ⟨z1, z2, z3, z4, z5, z6, z7, z8, z9, z10, z11⟩ := hSZ
    exact ⟨⟨z1, z2, z3, z4, z5, z6, rfl, z8, z9, z10, z11⟩, hTX, h.2.2.1.mono (by omega), m, hm, hH.mono (by omega)⟩
