/-! the reference's saving -/
theorem q_sv10 {w : V11} (hn : w.2.1.1 = 3216) : ∀ (N i : Nat) (f : Nat → Int32), i ≤ 2412 → 2412 - i < N → ∃ f', qX11_save_10 w N (nI i) f = some (nI 2412, f') ∧ ∀ k, f' k = if i ≤ k ∧ k < 2412 then f (k + 804) else f k := by
  intro N
  induction N with
  | zero => intro i f _ h; omega
  | succ N ih =>
    intro i f hi hN
    unfold qX11_save_10 lt_
    simp only [fa_lit, nI_add, hn]
    rcases Nat.lt_or_ge i 2412 with hlt | hge
    · rw [if_neg (nI_ge hlt (by decide)), grd_pos (vp_in_nI (by omega) (by decide)), grd_pos (vp_in_nI (by omega) (by decide)), nI_clamp (by omega), nI_clamp (by omega)]
      obtain ⟨f', h1, h2⟩ := ih (i + 1) (upd f i (f (i + 804))) hlt (by omega)
      refine ⟨f', h1, fun k => ?_⟩
      rw [h2 k]
      unfold upd
      by_cases e1 : k = i
      · subst e1
        rw [if_neg (by omega), if_pos rfl, if_pos (by omega)]
      · by_cases e2 : i ≤ k ∧ k < 2412
        · rw [if_pos (by omega), if_neg (by omega), if_pos e2]
        · rw [if_neg (by omega), if_neg e1, if_neg e2]
    · have : i = 2412 := by omega
      subst this
      rw [if_pos (nI_le (Nat.le_refl _) (by decide))]
      exact ⟨f, rfl, fun k => by rw [if_neg (by omega)]⟩
theorem q_sv51 {w : V11} {j : (Nat → Int32) × Int32} {m : Nat} (hn : w.2.1.1 = 3216) (hg : w.1.1 = 804) (hj : j.2 = nI m) (hm : m < 4) : ∀ (N i : Nat) (f : Nat → Int32), i ≤ 804 → 804 - i < N → ∃ f', qX11_save_51 w j N (nI i) f = some (nI 804, f') ∧ ∀ k, f' k = if 804 * m + i ≤ k ∧ k < 804 * m + 804 then w.1.2 (k - 804 * m) else f k := by
  intro N
  induction N with
  | zero => intro i f _ h; omega
  | succ N ih =>
    intro i f hi hN
    unfold qX11_save_51 lt_
    rw [hj, hn, hg]
    simp only [fa_lit, ni_mul, nI_add]
    rcases Nat.lt_or_ge i 804 with hlt | hge
    · rw [if_neg (nI_ge hlt (by decide)), grd_pos (vp_in_nI (by omega) (by decide)), grd_pos (vp_in_nI (by omega) (by decide)), nI_clamp (by omega), nI_clamp (by omega)]
      obtain ⟨f', h1, h2⟩ := ih (i + 1) (upd f (804 * m + i) (w.1.2 i)) hlt (by omega)
      refine ⟨f', h1, fun k => ?_⟩
      rw [h2 k]
      unfold upd
      by_cases e1 : k = 804 * m + i
      · subst e1
        rw [if_neg (by omega), if_pos rfl, if_pos (by omega)]
        congr 1
        omega
      · by_cases e2 : 804 * m + i ≤ k ∧ k < 804 * m + 804
        · rw [if_pos (by omega), if_pos e2]
        · rw [if_neg (by omega), if_neg e1, if_neg e2]
    · have : i = 804 := by omega
      subst this
      rw [if_pos (nI_le (Nat.le_refl _) (by decide))]
      exact ⟨f, rfl, fun k => by rw [if_neg (by omega)]⟩
/-- the reference's save: the rows as the class's -/
theorem m_save {w : V11} {m N : Nat} (hn : w.2.1.1 = 3216) (hg : w.1.1 = 804) (hm : m ≤ 4) (hw : w.2.2.1 = nI m) (hN : 5000 ≤ N) : ∃ sv' : Nat → Int32, sX11_save N w = some (w.1, (w.2.1.1, sv'), nI (svd m), w.2.2.2) ∧ (∀ j k, j + 1 < svd m → k < 804 → sv' (804 * j + k) = w.2.1.2 (804 * (if m = 4 then j + 1 else j) + k)) ∧ ∀ k, k < 804 → sv' (804 * (svd m - 1) + k) = w.1.2 k := by
  unfold sX11_save
  by_cases h4 : m = 4
  · subst h4
    obtain ⟨f1, a1, a2⟩ := q_sv10 hn N 0 w.2.1.2 (by omega) (by omega)
    obtain ⟨f2, b1, b2⟩ := q_sv51 (j := (f1, nI 3)) (m := 3) hn hg rfl (by decide) N 0 f1 (by omega) (by omega)
    refine ⟨f2, ?_, fun j k hj hk => ?_, fun k hk => ?_⟩
    · rw [hw, if_pos rfl]
      rw [show (0 : Int32) = nI 0 from rfl, a1]
      show ((qX11_save_51 w (f1, nI 4 - 1) N (nI 0) f1).bind _) = _
      rw [show nI 4 - 1 = nI 3 from rfl, b1]
      rfl
    · have hj : j < 3 := by unfold svd at hj; rw [if_pos rfl] at hj; omega
      rw [b2, if_neg (by omega), a2, if_pos (by omega), if_pos rfl]
      congr 1
      omega
    · have e : svd 4 - 1 = 3 := rfl
      rw [e, b2, if_pos (by omega)]
      congr 1
      omega
  · obtain ⟨f2, b1, b2⟩ := q_sv51 (j := (w.2.1.2, nI m)) (m := m) hn hg rfl (by omega) N 0 w.2.1.2 (by omega) (by omega)
    have e0 : svd m = m + 1 := by unfold svd; rw [if_neg h4]
    refine ⟨f2, ?_, fun j k hj hk => ?_, fun k hk => ?_⟩
    · rw [hw, if_neg (by rw [show (4 : Int32) = nI 4 from rfl, nI_eq (by omega) (by decide)]; exact h4)]
      show ((qX11_save_51 w (w.2.1.2, nI m) N 0 w.2.1.2).bind _) = _
      rw [show (0 : Int32) = nI 0 from rfl, b1]
      show some _ = _
      rw [e0, ← nI_1]
      rfl
    · rw [e0] at hj
      rw [b2, if_neg (by omega), if_neg h4]
    · rw [e0, b2, if_pos (by omega)]
      congr 1
      omega
