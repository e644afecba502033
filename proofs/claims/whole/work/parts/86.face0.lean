/-! the tests of arguments, on both sides -/
theorem lg_lt (x y : Int64) : lg_cmp x y < 0 ↔ x < y := by
  unfold lg_cmp
  by_cases h1 : x > y
  · rw [if_pos h1]
    refine ⟨fun h => absurd h (by decide), fun h => ?_⟩
    rw [fa_lt64] at h
    have h1 : y < x := h1
    rw [fa_lt64] at h1
    omega
  · rw [if_neg h1]
    by_cases h2 : x = y
    · rw [if_pos h2]
      refine ⟨fun h => absurd h (by decide), fun h => ?_⟩
      subst h2
      rw [fa_lt64] at h
      omega
    · rw [if_neg h2]
      refine ⟨fun _ => ?_, fun _ => by decide⟩
      have h1 : ¬ y < x := h1
      rw [fa_lt64] at h1 ⊢
      rw [fa_eq64] at h2
      omega
theorem lg_gt (x y : Int64) : 0 < lg_cmp x y ↔ y < x := by
  unfold lg_cmp
  by_cases h1 : x > y
  · rw [if_pos h1]
    exact ⟨fun _ => h1, fun _ => by decide⟩
  · rw [if_neg h1]
    refine ⟨fun h => ?_, fun h => absurd h h1⟩
    by_cases h2 : x = y
    · rw [if_pos h2] at h
      exact absurd h (by decide)
    · rw [if_neg h2] at h
      exact absurd h (by decide)
theorem m_in (x lo hi : Int32) : sX11_in x.toInt64 lo.toInt64 hi.toInt64 = some (if lo ≤ x ∧ x ≤ hi then nI 1 else nI 0) := by
  unfold sX11_in
  by_cases h1 : x < lo
  · rw [if_pos ((lg_lt _ _).mpr ((fa_wide_lt _ _).mpr h1)), if_neg (fun h => by rw [fa_lt] at h1; have h := h.1; rw [fa_le] at h; omega)]
    rfl
  · rw [if_neg (fun h => h1 ((fa_wide_lt _ _).mp ((lg_lt _ _).mp h)))]
    by_cases h2 : hi < x
    · rw [if_pos ((lg_gt _ _).mpr ((fa_wide_lt _ _).mpr h2)), if_neg (fun h => by rw [fa_lt] at h2; have h := h.2; rw [fa_le] at h; omega)]
      rfl
    · rw [if_neg (fun h => h2 ((fa_wide_lt _ _).mp ((lg_gt _ _).mp h))), if_pos ⟨fa_of_nlt h1, fa_of_nlt h2⟩]
      rfl
theorem isz_if (c : Prop) [Decidable c] : isz (if c then nI 1 else nI 0) := by
  unfold isz
  split <;> rfl
theorem m_isC (x : Int32) : sX11_isChannel x = some (if nI 0 ≤ x ∧ x ≤ nI 31 then nI 1 else nI 0) := by
  unfold sX11_isChannel
  rw [show (0 : Int64) = (0 : Int32).toInt64 from rfl, show (31 : Int64) = (31 : Int32).toInt64 from rfl, m_in]
  exact grd_pos (isz_if _) _
theorem m_isL (x : Int32) : sX11_isLevel x = some (if nI 0 ≤ x ∧ x ≤ nI 100 then nI 1 else nI 0) := by
  unfold sX11_isLevel
  rw [show (0 : Int64) = (0 : Int32).toInt64 from rfl, show (100 : Int64) = (100 : Int32).toInt64 from rfl, m_in]
  exact grd_pos (isz_if _) _
theorem m_isS (x : Int32) : sX11_isStart x = some (if nI 0 ≤ x ∧ x ≤ nI 100000 then nI 1 else nI 0) := by
  unfold sX11_isStart
  rw [show (0 : Int64) = (0 : Int32).toInt64 from rfl, show (100000 : Int64) = (100000 : Int32).toInt64 from rfl, m_in]
  exact grd_pos (isz_if _) _
theorem m_isF (x : Int32) : sX11_isFigure x = some (if nI 48 ≤ x ∧ x ≤ nI 57 then nI 1 else nI 0) := by
  unfold sX11_isFigure
  rw [show (48 : Int64) = (48 : Int32).toInt64 from rfl, show (57 : Int64) = (57 : Int32).toInt64 from rfl, m_in]
  exact grd_pos (isz_if _) _
def setTh (w : V11) (x : Int32) : V11 := (w.1, w.2.1, w.2.2.1, x, w.2.2.2.2)
theorem m_go11 (w : V11) : sX11_goes w (nI 1) (nI 1) = some (nI 1, setTh w (nI 0)) := rfl
theorem m_go0 (w : V11) (b : Int32) : sX11_goes w (nI 0) b = some (nI 0, setTh w (nI 1)) := rfl
theorem m_go10 (w : V11) : sX11_goes w (nI 1) (nI 0) = some (nI 0, setTh w (nI 2)) := rfl
theorem c_arg (x lo hi : Int32) : sX10_requireArgument x lo hi = some (if lo ≤ x ∧ x ≤ hi then .inr () else .inl 0) := by
  unfold sX10_requireArgument
  by_cases h1 : x < lo
  · rw [if_pos h1, if_neg (fun h => by rw [fa_lt] at h1; have h := h.1; rw [fa_le] at h; omega)]
  · rw [if_neg h1]
    by_cases h2 : x ≤ hi
    · rw [if_pos h2, if_pos ⟨fa_of_nlt h1, h2⟩]
    · rw [if_neg h2, if_neg (fun h => h2 h.2)]
theorem c_within (x n : Int32) : sX10_within x n = some (if nI 0 ≤ x ∧ x < n then nI 1 else nI 0) := by
  show (if x < nI 0 then some (nI 0) else if n ≤ x then some (nI 0) else some (nI 1)) = _
  by_cases h1 : x < nI 0
  · rw [if_pos h1, if_neg (fun h => by rw [fa_lt] at h1; have h := h.1; rw [fa_le] at h; omega)]
  · rw [if_neg h1]
    by_cases h2 : n ≤ x
    · rw [if_pos h2, if_neg (fun h => by rw [fa_le] at h2; have h := h.2; rw [fa_lt] at h; omega)]
    · rw [if_neg h2, if_pos ⟨fa_of_nlt h1, fa_of_nle h2⟩]
theorem c_idx (x n : Int32) : sX10_requireIndex x n = some (if nI 0 ≤ x ∧ x < n then .inr () else .inl 2) := by
  unfold sX10_requireIndex
  rw [c_within]
  by_cases h : nI 0 ≤ x ∧ x < n
  · rw [if_pos h, if_pos h]
    rfl
  · rw [if_neg h, if_neg h]
    rfl
theorem c_room (v : V10) : sX10_requireRoomForSignal v = some (if v.2.2.1.1.2 < nI 10 then .inr () else .inl 1) := by
  unfold sX10_requireRoomForSignal
  rw [show (10 : Int32) = nI 10 from rfl]
  split <;> rfl
theorem m_in_1_31 (x : Int32) : sX11_in x.toInt64 (1 : Int64) (31 : Int64) = some (if nI 1 ≤ x ∧ x ≤ nI 31 then nI 1 else nI 0) := m_in x (nI 1) (nI 31)
theorem m_in_1_1000 (x : Int32) : sX11_in x.toInt64 (1 : Int64) (1000 : Int64) = some (if nI 1 ≤ x ∧ x ≤ nI 1000 then nI 1 else nI 0) := m_in x (nI 1) (nI 1000)
theorem m_in_0_100 (x : Int32) : sX11_in x.toInt64 (0 : Int64) (100 : Int64) = some (if nI 0 ≤ x ∧ x ≤ nI 100 then nI 1 else nI 0) := m_in x (nI 0) (nI 100)
theorem m_in_0_127 (x : Int32) : sX11_in x.toInt64 (0 : Int64) (127 : Int64) = some (if nI 0 ≤ x ∧ x ≤ nI 127 then nI 1 else nI 0) := m_in x (nI 0) (nI 127)
theorem m_in_0_2000 (x : Int32) : sX11_in x.toInt64 (0 : Int64) (2000 : Int64) = some (if nI 0 ≤ x ∧ x ≤ nI 2000 then nI 1 else nI 0) := m_in x (nI 0) (nI 2000)
theorem m_in_0_2 (x : Int32) : sX11_in x.toInt64 (0 : Int64) (2 : Int64) = some (if nI 0 ≤ x ∧ x ≤ nI 2 then nI 1 else nI 0) := m_in x (nI 0) (nI 2)
theorem m_in_0_3 (x : Int32) : sX11_in x.toInt64 (0 : Int64) (3 : Int64) = some (if nI 0 ≤ x ∧ x ≤ nI 3 then nI 1 else nI 0) := m_in x (nI 0) (nI 3)
theorem m_in_0_6 (x : Int32) : sX11_in x.toInt64 (0 : Int64) (6 : Int64) = some (if nI 0 ≤ x ∧ x ≤ nI 6 then nI 1 else nI 0) := m_in x (nI 0) (nI 6)
theorem m_in_1 (x y : Int32) : sX11_in x.toInt64 (1 : Int64) y.toInt64 = some (if nI 1 ≤ x ∧ x ≤ y then nI 1 else nI 0) := m_in x (nI 1) y
theorem m_in_0 (x y : Int32) : sX11_in x.toInt64 (0 : Int64) y.toInt64 = some (if nI 0 ≤ x ∧ x ≤ y then nI 1 else nI 0) := m_in x (nI 0) y
theorem le_31 (x : Int32) : x ≤ nI 31 ↔ x < nI 32 := by
  rw [fa_le, fa_lt, nI_toInt (by decide), nI_toInt (by decide)]
  omega
theorem m_isC' (x : Int32) : sX11_isChannel x = some (if nI 0 ≤ x ∧ x < nI 32 then nI 1 else nI 0) := by
  rw [m_isC]
  simp only [le_31]
theorem m_inx (x : Int32) {n : Nat} (hn : n < 2 ^ 31) : sX11_in x.toInt64 (0 : Int64) ((nI n - (1 : Int32)).toInt64) = some (if nI 0 ≤ x ∧ x < nI n then nI 1 else nI 0) := by
  rw [m_in_0]
  have e : x ≤ nI n - (1 : Int32) ↔ x < nI n := by
    have e1 : (nI n - (1 : Int32)).toInt = (n : Int) - 1 := by
      rw [fb_subI, nI_toInt hn]
      · rfl
      · rw [nI_toInt hn, show (1 : Int32).toInt = 1 from rfl]; omega
      · rw [nI_toInt hn, show (1 : Int32).toInt = 1 from rfl]; omega
    rw [fa_le, fa_lt, e1, nI_toInt hn]
    omega
  simp only [e]
theorem e_k0 : (0 : Int32).toNatClampNeg = 0 := rfl
theorem e_k1 : (1 : Int32).toNatClampNeg = 1 := rfl
theorem e_k2 : (2 : Int32).toNatClampNeg = 2 := rfl
theorem e_k3 : (3 : Int32).toNatClampNeg = 3 := rfl
theorem e_k4 : (4 : Int32).toNatClampNeg = 4 := rfl
theorem e_k5 : (5 : Int32).toNatClampNeg = 5 := rfl
theorem e_k6 : (6 : Int32).toNatClampNeg = 6 := rfl
theorem e_k7 : (7 : Int32).toNatClampNeg = 7 := rfl
theorem e_k8 : (8 : Int32).toNatClampNeg = 8 := rfl
theorem e_k9 : (9 : Int32).toNatClampNeg = 9 := rfl
theorem m_isEv {w : V11} {n : Nat} (hz : w.1.1 = 804) (h9 : w.1.2 9 = nI n) (hn : n < 2 ^ 31) (x : Int32) : sX11_isEvent w x = some (if nI 0 ≤ x ∧ x < nI n then nI 1 else nI 0) := by
  unfold sX11_isEvent
  rw [hz, grd_pos (by rw [e_l9]; exact vp_in_nI (by decide) (by decide)), e_k9, h9, m_inx x hn]
  exact grd_pos (isz_if _) _
