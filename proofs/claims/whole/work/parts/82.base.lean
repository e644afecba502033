/-! evaluating: literals, guards, and small facts -/
theorem ni_mul (a b : Nat) : nI a * nI b = nI (a * b) := by
  unfold nI
  exact (Int32.ofNat_mul a b).symm
theorem ni_sub {a b : Nat} (h : b ≤ a) : nI a - nI b = nI (a - b) := by
  have h1 : nI (a - b) + nI b = nI a := by rw [nI_add, Nat.sub_add_cancel h]
  rw [← h1, Int32.add_sub_cancel]
theorem e_l0 : (0 : Int32) = nI 0 := id rfl
theorem e_l1 : (1 : Int32) = nI 1 := id rfl
theorem e_l2 : (2 : Int32) = nI 2 := id rfl
theorem e_l3 : (3 : Int32) = nI 3 := id rfl
theorem e_l4 : (4 : Int32) = nI 4 := id rfl
theorem e_l5 : (5 : Int32) = nI 5 := id rfl
theorem e_l6 : (6 : Int32) = nI 6 := id rfl
theorem e_l7 : (7 : Int32) = nI 7 := id rfl
theorem e_l8 : (8 : Int32) = nI 8 := id rfl
theorem e_l9 : (9 : Int32) = nI 9 := id rfl
theorem e_l10 : (10 : Int32) = nI 10 := id rfl
theorem e_l12 : (12 : Int32) = nI 12 := id rfl
theorem e_l13 : (13 : Int32) = nI 13 := id rfl
theorem e_l20 : (20 : Int32) = nI 20 := id rfl
theorem e_l31 : (31 : Int32) = nI 31 := id rfl
theorem e_l32 : (32 : Int32) = nI 32 := id rfl
theorem e_l45 : (45 : Int32) = nI 45 := id rfl
theorem e_l48 : (48 : Int32) = nI 48 := id rfl
theorem e_l50 : (50 : Int32) = nI 50 := id rfl
theorem e_l57 : (57 : Int32) = nI 57 := id rfl
theorem e_l58 : (58 : Int32) = nI 58 := id rfl
theorem e_l59 : (59 : Int32) = nI 59 := id rfl
theorem e_l64 : (64 : Int32) = nI 64 := id rfl
theorem e_l70 : (70 : Int32) = nI 70 := id rfl
theorem e_l100 : (100 : Int32) = nI 100 := id rfl
theorem e_l106 : (106 : Int32) = nI 106 := id rfl
theorem e_l127 : (127 : Int32) = nI 127 := id rfl
theorem e_l138 : (138 : Int32) = nI 138 := id rfl
theorem e_l554 : (554 : Int32) = nI 554 := id rfl
theorem e_l799 : (799 : Int32) = nI 799 := id rfl
theorem e_l804 : (804 : Int32) = nI 804 := id rfl
theorem e_l1000 : (1000 : Int32) = nI 1000 := id rfl
theorem e_l2000 : (2000 : Int32) = nI 2000 := id rfl
theorem e_l2412 : (2412 : Int32) = nI 2412 := id rfl
theorem e_l100000 : (100000 : Int32) = nI 100000 := id rfl
def m1 : Int32 := -1
theorem e_m1 : -nI 1 = m1 := id rfl
theorem m1_toInt : m1.toInt = -1 := by decide
theorem e_mE {k : Nat} (h : k < 2 ^ 31) : (nI k = m1) = False := by
  refine eq_false (fun e => ?_)
  rw [fa_eq, nI_toInt h, m1_toInt] at e
  omega
theorem e_Em {k : Nat} (h : k < 2 ^ 31) : (m1 = nI k) = False := by
  refine eq_false (fun e => ?_)
  rw [fa_eq, nI_toInt h, m1_toInt] at e
  omega
theorem e_mlt {k : Nat} (h : k < 2 ^ 31) : (m1 < nI k) = True := by
  refine eq_true ?_
  rw [fa_lt, nI_toInt h, m1_toInt]
  omega
theorem e_mle {k : Nat} (h : k < 2 ^ 31) : (m1 ≤ nI k) = True := by
  refine eq_true ?_
  rw [fa_le, nI_toInt h, m1_toInt]
  omega
theorem e_ltm {k : Nat} (h : k < 2 ^ 31) : (nI k < m1) = False := by
  refine eq_false (fun e => ?_)
  rw [fa_lt, nI_toInt h, m1_toInt] at e
  omega
theorem e_lem {k : Nat} (h : k < 2 ^ 31) : (nI k ≤ m1) = False := by
  refine eq_false (fun e => ?_)
  rw [fa_le, nI_toInt h, m1_toInt] at e
  omega
theorem e_ltT {a b : Nat} (h : a < b) (hb : b < 2 ^ 31) : (nI a < nI b) = True := eq_true (nI_lt h hb)
theorem e_ltF {a b : Nat} (h : b ≤ a) (ha : a < 2 ^ 31) : (nI a < nI b) = False := eq_false (nI_nlt h ha)
theorem e_leT {a b : Nat} (h : a ≤ b) (hb : b < 2 ^ 31) : (nI a ≤ nI b) = True := eq_true (nI_le h hb)
theorem e_leF {a b : Nat} (h : b < a) (ha : a < 2 ^ 31) : (nI a ≤ nI b) = False := eq_false (nI_ge h ha)
theorem e_eqT {a b : Nat} (h : a = b) : (nI a = nI b) = True := eq_true (congrArg nI h)
theorem e_eqF {a b : Nat} (h : ¬ a = b) (ha : a < 2 ^ 31) (hb : b < 2 ^ 31) : (nI a = nI b) = False := eq_false (fun e => h ((nI_eq ha hb).mp e))
theorem e_grd {α : Type} {k n : Nat} {K : Option α} (h : k < n) (hn : n < 2 ^ 31) : grd (vp_in (nI k) n) K = K := grd_pos (vp_in_nI h hn) K
theorem e_gz {α : Type} {k : Nat} {K : Option α} (h : 0 < k) (hn : k < 2 ^ 31) : grd (¬ nI k = nI 0) K = K := grd_pos (nI_ne0 h hn) K
theorem e_gt {α : Type} {K : Option α} : grd True K = K := grd_pos trivial K
theorem e_bs {α : Type} (x : Option α) : (x.bind fun o => some o) = x := by
  cases x <;> rfl
theorem e_lt {α β : Type} (x : α) (k : α → β) : lt_ x k = k x := id rfl
theorem e_bd {α β : Type} (x : α) (f : α → Option β) : (some x).bind f = f x := id rfl
theorem e_clamp : m1.toNatClampNeg = 0 := by decide
theorem e_ip {α : Type} {c : Prop} [Decidable c] {a b : α} (h : c) : (if c then a else b) = a := if_pos h
theorem e_in {α : Type} {c : Prop} [Decidable c] {a b : α} (h : ¬ c) : (if c then a else b) = b := if_neg h
theorem e_el {α β γ : Type} (a : α) (f : α → Option γ) (g : β → Option γ) : eli (.inl a) f g = f a := id rfl
theorem e_er {α β γ : Type} (a : β) (f : α → Option γ) (g : β → Option γ) : eli (.inr a) f g = g a := id rfl
theorem e_eq {f : Nat → Int32} {k j : Nat} {x : Int32} (h : j = k) : upd f k x j = x := by
  unfold upd
  rw [if_pos h]
theorem e_ne {f : Nat → Int32} {k j : Nat} {x : Int32} (h : ¬ j = k) : upd f k x j = f j := by
  unfold upd
  rw [if_neg h]
theorem bnd_if {α β : Type} {c : Prop} [Decidable c] (a b : α) (f : α → Option β) : ((if c then some a else some b : Option α).bind f) = f (if c then a else b) := by
  split <;> rfl
theorem ite_pull {α β : Type} (c : Prop) [Decidable c] (f : α → β) (a b : α) : f (if c then a else b) = if c then f a else f b := by
  split <;> rfl
/-! tables -/
def TB (R C : Nat) (t : V9) : Prop := t.1 = nI R ∧ t.2.1 = nI C ∧ t.2.2.1 = R * C
def tset (t : V9) (k : Nat) (x : Int32) : V9 := (t.1, t.2.1, (t.2.2.1, upd t.2.2.2 k x))
theorem TB.set {R C : Nat} {t : V9} {k : Nat} {x : Int32} (h : TB R C t) : TB R C (tset t k x) := h
theorem ts_eq {t : V9} {k j : Nat} {x : Int32} (h : j = k) : (tset t k x).2.2.2 j = x := e_eq h
theorem ts_ne {t : V9} {k j : Nat} {x : Int32} (h : ¬ j = k) : (tset t k x).2.2.2 j = t.2.2.2 j := e_ne h
theorem tb_at {R C r c : Nat} (hr : r < R) (hc : c < C) : r * C + c < R * C := by
  have h1 : (r + 1) * C ≤ R * C := Nat.mul_le_mul_right C hr
  rw [Nat.succ_mul] at h1
  omega
theorem tb_R {R C c : Nat} (hc : c < C) : R ≤ R * C := Nat.le_mul_of_pos_right R (by omega)
theorem tb_get {R C : Nat} {t : V9} (h : TB R C t) {r c : Nat} (hr : r < R) (hc : c < C) (hb : R * C < 2 ^ 31) : sX9_get t (nI r) (nI c) = some (t.2.2.2 (r * C + c)) := by
  obtain ⟨t1, t2, tn, f⟩ := t
  obtain ⟨h1, h2, h3⟩ := h
  dsimp only at h1 h2 h3
  subst h1; subst h2; subst h3
  have e1 := tb_at hr hc
  have e2 : R ≤ R * C := tb_R hc
  have e3 : C ≤ R * C := Nat.le_mul_of_pos_left C (by omega)
  unfold sX9_get
  dsimp only
  rw [if_neg (nI_pos (by omega)), if_neg (nI_ge hr (by omega)), if_neg (nI_pos (by omega)), if_pos (nI_lt hc (by omega)), ni_mul, nI_add, grd_pos (vp_in_nI e1 hb), nI_clamp (by omega)]
theorem tb_set {R C : Nat} {t : V9} (h : TB R C t) {r c : Nat} {x : Int32} (hr : r < R) (hc : c < C) (hb : R * C < 2 ^ 31) : sX9_set t (nI r) (nI c) x = some (tset t (r * C + c) x) := by
  obtain ⟨t1, t2, tn, f⟩ := t
  obtain ⟨h1, h2, h3⟩ := h
  dsimp only at h1 h2 h3
  subst h1; subst h2; subst h3
  have e1 := tb_at hr hc
  have e2 : R ≤ R * C := tb_R hc
  have e3 : C ≤ R * C := Nat.le_mul_of_pos_left C (by omega)
  unfold sX9_set
  dsimp only
  rw [if_neg (nI_pos (by omega)), if_neg (nI_ge hr (by omega)), if_neg (nI_pos (by omega)), if_pos (nI_lt hc (by omega)), ni_mul, nI_add, grd_pos (vp_in_nI e1 hb), nI_clamp (by omega)]
  rfl
theorem tb_get_neg (t : V9) (c : Int32) : sX9_get t m1 c = some m1 := by
  unfold sX9_get
  rw [if_pos (by decide)]
  rfl
theorem tb_set_neg (t : V9) (c x : Int32) : sX9_set t m1 c x = some t := by
  unfold sX9_set
  rw [if_pos (by decide)]
theorem tb_inc {R C : Nat} {t : V9} (h : TB R C t) {r c : Nat} (hr : r < R) (hc : c < C) (hb : R * C < 2 ^ 31) : sX9_increase t (nI r) (nI c) = some (tset t (r * C + c) (t.2.2.2 (r * C + c) + 1)) := by
  unfold sX9_increase
  rw [tb_get h hr hc hb]
  show ((sX9_set t (nI r) (nI c) _).bind _) = _
  rw [tb_set h hr hc hb]
  rfl
theorem TB.ex {R C : Nat} {t : V9} (h : TB R C t) : ∃ f, t = (nI R, nI C, R * C, f) := by
  obtain ⟨t1, t2, tn, f⟩ := t
  obtain ⟨h1, h2, h3⟩ := h
  dsimp only at h1 h2 h3
  subst h1; subst h2; subst h3
  exact ⟨f, rfl⟩
theorem TB.mk (R C : Nat) (f : Nat → Int32) : TB R C (nI R, nI C, R * C, f) := ⟨rfl, rfl, rfl⟩
theorem tq_get {R C r c : Nat} {f : Nat → Int32} (hr : r < R) (hc : c < C) (hb : R * C < 2 ^ 31) : sX9_get (nI R, nI C, R * C, f) (nI r) (nI c) = some (f (r * C + c)) := tb_get (TB.mk R C f) hr hc hb
theorem tq_set {R C r c : Nat} {f : Nat → Int32} {x : Int32} (hr : r < R) (hc : c < C) (hb : R * C < 2 ^ 31) : sX9_set (nI R, nI C, R * C, f) (nI r) (nI c) x = some (nI R, nI C, R * C, upd f (r * C + c) x) := tb_set (TB.mk R C f) hr hc hb
theorem tq_inc {R C r c : Nat} {f : Nat → Int32} (hr : r < R) (hc : c < C) (hb : R * C < 2 ^ 31) : sX9_increase (nI R, nI C, R * C, f) (nI r) (nI c) = some (nI R, nI C, R * C, upd f (r * C + c) (f (r * C + c) + nI 1)) := tb_inc (TB.mk R C f) hr hc hb
theorem e_ac {α : Type} {a b n n0 n1 : Nat} {K : Option α} (h1 : a + n ≤ n0) (h2 : b + n ≤ n1) (h3 : n0 < 2 ^ 31) (h4 : n1 < 2 ^ 31) : grd (acok (nI a) (nI b) (nI n) n0 n1) K = K := by
  refine grd_pos ⟨nI_pos (by omega), nI_pos (by omega), nI_pos (by omega), ?_, ?_⟩ K
  · rw [nI_clamp (by omega), nI_clamp (by omega)]; exact h1
  · rw [nI_clamp (by omega), nI_clamp (by omega)]; exact h2
/-! a row filled -/
theorem q_fill {n : Nat} {f0 : Nat → Int32} {x : Int32} (hn : n < 2 ^ 31) : ∀ (N i : Nat) (f : Nat → Int32), i ≤ n → n - i < N → ∃ g, qJ7_fill_53178_5 (n, f0) x N (nI i) f = some (nI n, g) ∧ ∀ k, g k = if i ≤ k ∧ k < n then x else f k := by
  intro N
  induction N with
  | zero => intro i f _ h; omega
  | succ N ih =>
    intro i f hi hN
    unfold qJ7_fill_53178_5
    dsimp only
    rcases Nat.lt_or_ge i n with hlt | hge
    · rw [if_neg (nI_ge hlt hn), grd_pos (vp_in_nI hlt hn), nI_clamp (by omega), nI_1]
      obtain ⟨g, hg, hk⟩ := ih (i + 1) (upd f i x) hlt (by omega)
      refine ⟨g, hg, fun k => ?_⟩
      rw [hk k]
      unfold upd
      by_cases h1 : k = i
      · subst h1
        rw [if_neg (by omega), if_pos rfl, if_pos (by omega)]
      · by_cases h2 : i ≤ k ∧ k < n
        · rw [if_pos (by omega), if_pos h2]
        · rw [if_neg (by omega), if_neg h1, if_neg h2]
    · have : i = n := by omega
      subst this
      rw [if_pos (nI_le (Nat.le_refl _) hn)]
      exact ⟨f, rfl, fun k => by rw [if_neg (by omega)]⟩
theorem s_fill {n N : Nat} {f : Nat → Int32} {x : Int32} (hn : n < 2 ^ 31) (hN : n < N) : ∃ g, sJ7_fill_53178 N (n, f) x = some g ∧ ∀ k, g k = if k < n then x else f k := by
  obtain ⟨g, hg, hk⟩ := q_fill (f0 := f) (x := x) hn N 0 f (Nat.zero_le _) (by omega)
  refine ⟨g, ?_, fun k => ?_⟩
  · unfold sJ7_fill_53178
    rw [show (0 : Int32) = nI 0 from rfl, hg]
    rfl
  · rw [hk k]
    simp
theorem tb_fill {R C : Nat} {t : V9} (h : TB R C t) {N : Nat} (x : Int32) (hb : R * C < 2 ^ 31) (hN : R * C < N) : ∃ t', sX9_fill N t x = some t' ∧ TB R C t' ∧ ∀ k, t'.2.2.2 k = if k < R * C then x else t.2.2.2 k := by
  obtain ⟨t1, t2, tn, f⟩ := t
  obtain ⟨h1, h2, h3⟩ := h
  dsimp only at h1 h2 h3
  subst h1; subst h2; subst h3
  obtain ⟨g, hg, hk⟩ := s_fill (f := f) (x := x) hb hN
  refine ⟨(nI R, nI C, R * C, g), ?_, ⟨rfl, rfl, rfl⟩, hk⟩
  unfold sX9_fill
  rw [hg]
  rfl
/-! a table copied -/
theorem tb_copy {R C : Nat} {t u : V9} (h : TB R C t) (hu : TB R C u) (hb : R * C < 2 ^ 31) : ∃ t', sX9_copyFrom t u = some t' ∧ TB R C t' ∧ ∀ k, k < R * C → t'.2.2.2 k = u.2.2.2 k := by
  obtain ⟨t1, t2, tn, f⟩ := t
  obtain ⟨h1, h2, h3⟩ := h
  obtain ⟨u1, u2, un, g⟩ := u
  obtain ⟨k1, k2, k3⟩ := hu
  dsimp only at h1 h2 h3 k1 k2 k3
  subst h1; subst h2; subst h3; subst k1; subst k2; subst k3
  have e0 : sX9_copyFrom (nI R, nI C, R * C, f) (nI R, nI C, R * C, g) = some (nI R, nI C, R * C, va_cpy g f 0 0 (R * C)) := by
    unfold sX9_copyFrom lt_
    dsimp only
    rw [if_neg (nI_nlt (Nat.le_refl _) hb)]
    rw [grd_pos]
    · rw [nI_clamp hb]
      rfl
    · refine ⟨by decide, by decide, nI_pos hb, ?_, ?_⟩
      · rw [nI_clamp hb]; show 0 + _ ≤ _; omega
      · rw [nI_clamp hb]; show 0 + _ ≤ _; omega
  refine ⟨_, e0, ⟨rfl, rfl, rfl⟩, fun k hk => ?_⟩
  show va_cpy g f 0 0 (R * C) k = g k
  unfold va_cpy
  rw [if_pos (by omega)]
  congr 1
  omega
/-- an argument in its range -/
theorem rg_of {x : Int32} {lo hi : Nat} (hhi : hi < 2 ^ 31) (hl : lo < 2 ^ 31) (h1 : nI lo ≤ x) (h2 : x ≤ nI hi) : ∃ j : Nat, lo ≤ j ∧ j ≤ hi ∧ x = nI j := by
  rw [fa_le, nI_toInt hl] at h1
  rw [fa_le, nI_toInt hhi] at h2
  refine ⟨x.toInt.toNat, by omega, by omega, ?_⟩
  rw [fa_eq, nI_toInt (by omega)]
  omega
theorem rg_lt {x : Int32} {hi : Nat} (hhi : hi < 2 ^ 31) (h1 : 0 ≤ x) (h2 : x < nI hi) : ∃ j : Nat, j < hi ∧ x = nI j := by
  rw [show (0 : Int32) = nI 0 from rfl, fa_le, nI_toInt (by decide)] at h1
  rw [fa_lt, nI_toInt hhi] at h2
  refine ⟨x.toInt.toNat, by omega, ?_⟩
  rw [fa_eq, nI_toInt (by omega)]
  omega
