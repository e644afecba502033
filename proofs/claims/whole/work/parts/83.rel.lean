/-! how a state of the class stands to the reference's row -/
def EV (g : Nat → Int32) (e j : Nat) : Int32 := g (554 + 5 * e + j)
def sigOk (g : Nat → Int32) (i : Nat) : Prop := (g (10 + 6 * i) = nI 0 ∧ (∃ c, c < 32 ∧ g (10 + 6 * i + 1) = nI c) ∧ (∃ c, c ≤ 100 ∧ g (10 + 6 * i + 2) = nI c) ∧ (∃ c, c ≤ 100000 ∧ g (10 + 6 * i + 3) = nI c) ∧ (∃ c d, 1 ≤ c ∧ c ≤ d ∧ d ≤ 1000 ∧ g (10 + 6 * i + 4) = nI c ∧ g (10 + 6 * i + 5) = nI d)) ∨ (g (10 + 6 * i) = nI 1 ∧ (∃ c, c < 32 ∧ g (10 + 6 * i + 1) = nI c) ∧ (∃ c, 1 ≤ c ∧ c < 32 ∧ g (10 + 6 * i + 2) = nI c) ∧ (∃ c, 1 ≤ c ∧ c ≤ 1000 ∧ g (10 + 6 * i + 3) = nI c) ∧ (∃ c, c ≤ 100 ∧ g (10 + 6 * i + 4) = nI c) ∧ (∃ c, c ≤ 100000 ∧ g (10 + 6 * i + 5) = nI c))
def stepOk (g : Nat → Int32) (i : Nat) : Prop := ∃ lo hi dw : Nat, g (70 + 3 * i) = nI lo ∧ g (70 + 3 * i + 1) = nI hi ∧ g (70 + 3 * i + 2) = nI dw ∧ lo ≤ hi ∧ hi < 32 ∧ 1 ≤ dw ∧ dw ≤ 20
def evOk (g : Nat → Int32) (T e : Nat) : Prop := (∃ c, c < 32 ∧ EV g e 0 = nI c) ∧ (∃ c, c ≤ T ∧ EV g e 1 = nI c) ∧ (∃ c, c ≤ T ∧ EV g e 2 = nI c) ∧ (∃ c, c ≤ 100 ∧ EV g e 3 = nI c) ∧ (EV g e 4 = nI 0 ∨ EV g e 4 = nI 1)
/-- signals -/
def Rsig (v : V7) (g : Nat → Int32) : Prop := TB 10 6 v.1 ∧ ∃ n, n ≤ 10 ∧ v.2 = nI n ∧ g 5 = nI n ∧ (∀ i j, i < n → j < 6 → v.1.2.2.2 (i * 6 + j) = g (10 + 6 * i + j)) ∧ ∀ i, i < n → sigOk g i
/-- plan -/
def Rpl (v : V5) (g : Nat → Int32) : Prop := TB 12 3 v.1 ∧ ∃ n p el, n ≤ 12 ∧ v.2.1 = nI n ∧ g 6 = nI n ∧ v.2.2.1 = nI p ∧ g 7 = nI p ∧ v.2.2.2 = nI el ∧ g 8 = nI el ∧ el < 20 ∧ p ≤ 12 ∧ (0 < n → p < n) ∧ (0 < n → nI el < g (70 + 3 * p + 2)) ∧ (∀ i j, i < n → j < 3 → v.1.2.2.2 (i * 3 + j) = g (70 + 3 * i + j)) ∧ ∀ i, i < n → stepOk g i
/-- detectors -/
def Rdet (v : V1) (g : Nat → Int32) (T : Nat) : Prop := TB 32 4 v.1 ∧ TB 32 8 v.2.1 ∧ TB 32 1 v.2.2 ∧ (∀ c, c < 32 → v.2.2.2.2.2 (c * 1 + 0) = g (106 + c)) ∧ (∀ c j, c < 32 → j < 4 → v.1.2.2.2 (c * 4 + j) = g (138 + 13 * c + j)) ∧ ∀ c, c < 32 → ∃ ob, ob ≤ T ∧ g (138 + 13 * c) = nI ob ∧ g (138 + 13 * c + 4) = nI (min ob 8) ∧ ∀ j, j < min ob 8 → g (138 + 13 * c + 5 + j) = v.2.1.2.2.2 (c * 8 + (ob - min ob 8 + j) % 8)
/-- events: od names the slot of each number -/
def Rev (v : V2) (g : Nat → Int32) (T : Nat) : Prop := TB 50 5 v.1 ∧ v.2.1.1 = 50 ∧ TB 32 1 v.2.2.1 ∧ ∃ (n : Nat) (od : Nat → Nat), n ≤ 50 ∧ v.2.2.2 = nI n ∧ g 9 = nI n ∧ (∀ i, i < 50 → od i < 50 ∧ v.2.1.2 i = nI (od i)) ∧ (∀ i j, i < j → j < 50 → od i ≠ od j) ∧ (∀ e j, e < n → j < 5 → v.1.2.2.2 (od e * 5 + j) = EV g e j) ∧ (∀ e, e < n → evOk g T e) ∧
  (∀ c, c < 32 → (v.2.2.1.2.2.2 (c * 1 + 0) = m1 ∧ ∀ e, e < n → EV g e 4 = nI 1 → EV g e 0 ≠ nI c) ∨ ∃ e, e < n ∧ v.2.2.1.2.2.2 (c * 1 + 0) = nI (od e) ∧ EV g e 0 = nI c ∧ EV g e 4 = nI 1 ∧ ∀ e', e' < n → EV g e' 4 = nI 1 → EV g e' 0 = nI c → e' = e)
/-- the five numbers -/
def Rnum (v : Int32 × Int32 × Int32 × Int32 × Int32) (g : Nat → Int32) (T : Nat) : Prop := ∃ fl th gp tl, fl ≤ 100 ∧ th ≤ 100 ∧ 1 ≤ gp ∧ gp ≤ 1000 ∧ tl ≤ 100 ∧ v = (nI T, nI fl, nI th, nI gp, nI tl) ∧ g 1 = nI fl ∧ g 2 = nI th ∧ g 3 = nI gp ∧ g 4 = nI tl
def ST (v : V8) (g : Nat → Int32) (T : Nat) : Prop := Rsig v.1 g ∧ Rpl v.2.1 g ∧ ∃ t, t ≤ T ∧ g 0 = nI t ∧ Rdet v.2.2.1 g t ∧ Rev v.2.2.2.1 g t ∧ Rnum v.2.2.2.2 g t
/-- the shape alone -/
def SH (v : V8) : Prop := TB 10 6 v.1.1 ∧ TB 12 3 v.2.1.1 ∧ TB 32 4 v.2.2.1.1 ∧ TB 32 8 v.2.2.1.2.1 ∧ TB 32 1 v.2.2.1.2.2 ∧ TB 50 5 v.2.2.2.1.1 ∧ v.2.2.2.1.2.1.1 = 50 ∧ TB 32 1 v.2.2.2.1.2.2.1
theorem ST.sh {v : V8} {g : Nat → Int32} {T : Nat} (h : ST v g T) : SH v := by
  obtain ⟨h1, h2, t, -, -, h3, h4, -⟩ := h
  exact ⟨h1.1, h2.1, h3.1, h3.2.1, h3.2.2.1, h4.1, h4.2.1, h4.2.2.1⟩
/-- the saved states: the ring of the class, oldest first, against the reference's rows -/
def slot (v : V3) (k : Nat) : V8 := match k with
  | 0 => v.1
  | 1 => v.2.1
  | 2 => v.2.2.1
  | _ => v.2.2.2.1
def Rhist (v : V3) (sv : Nat → Int32) (m : Nat) (T : Nat) : Prop := ∃ nx, nx < 4 ∧ m ≤ 4 ∧ v.2.2.2.2.1 = nI nx ∧ v.2.2.2.2.2 = nI m ∧ (∀ k, k < 4 → SH (slot v k)) ∧ ∀ j, j < m → ST (slot v ((nx + 4 - m + j) % 4)) (fun k => sv (804 * j + k)) T
/-- the text -/
def Rtxt (v : V0) (tx : Nat → Int32) (tl : Int32) : Prop := v.1.1 = 100 ∧ ∃ n, n ≤ 100 ∧ v.2 = nI n ∧ tl = nI n ∧ ∀ k, k < n → v.1.2 k = tx k ∧ ∃ c, c < 128 ∧ tx k = nI c
/-- sizes of what is written anew -/
def SZ (v : V10) (w : V11) : Prop := w.1.1 = 804 ∧ w.2.1.1 = 3216 ∧ w.2.2.2.2.1.1 = 100 ∧ w.2.2.2.2.2.2.2.1.1 = 36 ∧ w.2.2.2.2.2.2.2.2.2.2.2.2.1.1 = 50 ∧ TB 12 3 v.1.2.1.1 ∧ v.2.1.1.1 = 108 ∧ v.2.2.2.2.1.1.1 = 50 ∧ v.2.2.2.2.1.2.1.1 = 50 ∧ v.2.2.2.2.1.2.2.1.1 = 50 ∧ v.2.2.2.2.2.1 = 32
/-- THE INVARIANT, after cn calls -/
def RR (cn : Nat) (v : V10) (w : V11) : Prop := SZ v w ∧ Rtxt v.1.1 w.2.2.2.2.1.2 w.2.2.2.2.2.1 ∧ ST v.2.2.1 w.1.2 (2000 * cn) ∧ ∃ m, w.2.2.1 = nI m ∧ Rhist v.2.2.2.1 w.2.1.2 m (2000 * cn)
