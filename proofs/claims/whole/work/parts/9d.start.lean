/-! THE CLAIM OUT OF ONE WALK OF THE LAW'S BODY. Your part is whole_start (and what it stands on); all else here is the same for every law, but numbers. -/
def R_law : String := "OccupancyMonitorLaw"
def lw_P (b : Addr) (xs : List Int32) (args : Array Value) (s : State) : Prop := args = #[.ref b] ∧ s.IntsAt b xs ∧ xs.length ≤ 3072 ∧ (Jvm.Cond.and given_1 narrow_1).before args s = true
/-- what a walk over the start with the record d0 says of its end, said of the start itself -/
theorem lw_closed {s t : State} {o : Outcome} {d0 : Drawn} {L : List Loc} {k n : Nat} (hd0 : s.drawn.sameBut d0 lw_cs) (hv : ∃ v, o = .returned v) (hW : (s.setDrawn d0).WarmedH t.vm) (hs : (s.setDrawn d0).sameButNew ({ t with vm := s.vm } : State) L k n) : State.butDraws s t lw_cs (fun t1 => Framed s o t1 L k n) := by
  have h2 : t.drawn = d0 := congrArg State.drawn hs.1
  refine ⟨⟨hv, hW, State.sameButNew.setDrawn hs s.drawn⟩, ?_, by decide⟩
  rw [h2]
  exact hd0
def lw_Q (_ : Array Value) (s : State) (o : Outcome) (t : State) : Prop := o = .returned (some (.int 1)) ∧ State.butDraws s t lw_cs (fun t1 => Framed s o t1 [] 601024 7293034)
def lw_Z (below : List Frame) (a : Array Value) (s : State) : State → Prop := fun t => ∃ o, t.status = .running ∧ Ended t below o ∧ lw_Q a s o t
/-- the law's own end, with 1 on the stack, nothing written that was there before, its room as the claim has it; d0: the record of draws at this point (at the entry s.drawn: begin with 'refine W.base ?_' and 'have hd0 := Drawn.sameBut.refl s.drawn lw_cs') -/
theorem lw_ret {p : Program} {l : Launch} {e : Env} {s : State} {m : MethodId} {below : List Frame} {meth : Method} {c : Code} {b : Nat} {d0 : Drawn} (hd0 : s.drawn.sameBut d0 lw_cs) (hx : p.tables.exec = Jvm.exec) (hb : c.code = code) (hr : meth.sig.returnType = ret) (hlocks : meth.locks = false) {pc : Nat} {H : Heap} {ls : Array Slot} (hdg : decode code pc = .ok (.ireturn, 1)) : W p l e room_1 (s.setDrawn d0) m #[Value.ref b] below meth c H [] 601024 7293034 (lw_Z below #[Value.ref b] s) (F0 m pc ls [.int 1]) := by
  intro T hT X
  obtain ⟨fs, hret, hrun, hended, hW, hframe⟩ := X.leave (v := some (.int 1)) (hlocks := hlocks) (fun h => by rw [hr] at h; cases h)
  have hmeth' : T.vm.method? m = some meth := X.method'
  refine ⟨T.setFrames fs, ?_, .returned (some (.int 1)), hrun, hended, rfl, lw_closed hd0 ⟨_, rfl⟩ hW hframe⟩
  jvm_step X.here [X.here.top, hx, hb, hdg, hmeth', hr, ret, narrow_b1]
  (try refine ⟨rfl, ?_⟩); (try refine ⟨rfl, ?_⟩)
  first | (intro acts; rw [hret _ acts rfl rfl rfl]) | rw [hret _ _ rfl rfl rfl]
  exact Steps.refl _
/-- what holds at the law's entry: the machine, the code, the tables' words (any of lw_tbl by 'hts w (by decide +kernel)'), the script of L ints xs at the cell b, what the Statement gives of the start (any of its parts by flat_of_before) -/
def lw_At (p : Program) (s : State) (m : MethodId) (meth : Method) (c : Code) (b L : Nat) (xs : Nat → Int32) : Prop :=
  p.tables.exec = Jvm.exec ∧ c.code = code ∧ meth.sig.returnType = ret ∧ c.maxLocals = 9 ∧ s.vm.findClass R_law = some m.cls ∧ (∀ w ∈ lw_tbl, w.before #[Value.ref b] s = true) ∧ va_X b L xs s s.heap ∧ b < s.heap.size ∧ meth.locks = false ∧ (Jvm.Cond.and given_1 narrow_1).before #[Value.ref b] s = true
theorem st_dnil {A : Nat → Prop} : va_D A (bw []) := ⟨fun i j p q h => by simp [bw] at h, fun k q h => by simp [bw] at h⟩
section KN2
variable {p : Program} {l : Launch} {e : Env} {R : Room} {s : State} {m : MethodId} {args : Array Value} {below : List Frame} {meth : Method} {c : Code} {H H0 : Heap} {locs : List Loc} {cells slots : Nat} {Q : State → Prop} {D : va_G} {cL cF : ClassId} {A : Nat → Prop} {bs : List va_W} {pc : Nat} {ls : Array Slot} {rest : List Value} {cc : ByteArray}
theorem k_newl {Ts : List Cond} (hx : p.tables.exec = Jvm.exec) (hb : c.code = cc) (hts : ∀ w ∈ Ts, w.before args s = true) (hzl : zl D cL cF s) (hw : ww A H0 D bs H locs) (hA : ∀ q, H0.size ≤ q → A q) (harr : Cond.arrayClass .long ∈ Ts) {n : Int32} {N' : Nat} (hn : ¬ n < 0) (hN : n.toNatClampNeg = N') (hbytes : N' * componentBytes .long ≤ 536870912) (hcells : cells + 1 ≤ R.cells) (hslots : slots + N' ≤ R.slots) (hdg : decode cc pc = .ok (.newarray .long, 2))
    (kk : ∀ (q : Nat) (H1 : Heap), ww A H0 D (bs ++ [[(q, .inl (cL, N', .inr (.inl (fun _ => 0))))]]) H1 locs → W p l e R s m args below meth c H1 locs (cells + 1) (slots + N') Q (F0 m (pc + 2) ls (.ref q :: rest))) : W p l e R s m args below meth c H locs cells slots Q (F0 m pc ls (.int n :: rest)) := by
  refine va_newa (atype := .long) (ty := .long) (a0 := (N', .inr (.inl (fun _ => 0)))) hx hb (hts _ harr) rfl hzl hw.1 hw.2.1 hw.2.2 hA (fun _ => rfl) hn hN hbytes hcells hslots hdg (fun q cA' H1 hK' hP hD hS => ?_)
  have h1 := (hzl.2 0 (cL, .long) rfl).2
  have h2 := (hK'.2 2 (cA', .long) rfl).2
  have he : cA' = cL := Option.some.inj (h2.symm.trans h1)
  subst he
  exact kk q H1 ⟨by rw [bw_snoc]; exact hP, by rw [bw_snoc]; exact hD, hS⟩
theorem k_newd {Ts : List Cond} (hx : p.tables.exec = Jvm.exec) (hb : c.code = cc) (hts : ∀ w ∈ Ts, w.before args s = true) (hzl : zl D cL cF s) (hw : ww A H0 D bs H locs) (hA : ∀ q, H0.size ≤ q → A q) (harr : Cond.arrayClass .double ∈ Ts) {n : Int32} {N' : Nat} (hn : ¬ n < 0) (hN : n.toNatClampNeg = N') (hbytes : N' * componentBytes .double ≤ 536870912) (hcells : cells + 1 ≤ R.cells) (hslots : slots + N' ≤ R.slots) (hdg : decode cc pc = .ok (.newarray .double, 2))
    (kk : ∀ (q : Nat) (H1 : Heap), ww A H0 D (bs ++ [[(q, .inl (cF, N', .inr (.inr (.inr (.inl (fun _ => 0))))))]]) H1 locs → W p l e R s m args below meth c H1 locs (cells + 1) (slots + N') Q (F0 m (pc + 2) ls (.ref q :: rest))) : W p l e R s m args below meth c H locs cells slots Q (F0 m pc ls (.int n :: rest)) := by
  refine va_newa (atype := .double) (ty := .double) (a0 := (N', .inr (.inr (.inr (.inl (fun _ => 0)))))) hx hb (hts _ harr) rfl hzl hw.1 hw.2.1 hw.2.2 hA (fun _ => rfl) hn hN hbytes hcells hslots hdg (fun q cA' H1 hK' hP hD hS => ?_)
  have h1 := (hzl.2 1 (cF, .double) rfl).2
  have h2 := (hK'.2 2 (cA', .double) rfl).2
  have he : cA' = cF := Option.some.inj (h2.symm.trans h1)
  subst he
  exact kk q H1 ⟨by rw [bw_snoc]; exact hP, by rw [bw_snoc]; exact hD, hS⟩
end KN2
set_option maxHeartbeats 4000000 in
set_option maxRecDepth 100000 in
theorem whole_start {p : Program} {e : Env} {s : State} {m : MethodId} {below : List Frame} {meth : Method} {c : Code} (l : Launch) (hflags : l.flags = flags0) {b L : Nat} {xs : Nat → Int32} (hL : L ≤ 3072) (C0 : lw_At p s m meth c b L xs) : W p l e room_1 s m #[Value.ref b] below meth c s.heap [] 0 0 (lw_Z below #[Value.ref b] s) (entryFrame m ([Value.ref b] : List Value).toArray 9) := by
  obtain ⟨hx, hb, hr, hml, hown, htb, hX, hbl, hlk, hgv⟩ := C0
  have hO : va_AO RX8 s := va_AO.of (htb (.arrayOver (.object RX8)) (by decide +kernel))
  obtain ⟨D, cA, cR, cL, cF, hz, hzl⟩ := st_zk htb hO
  have hzx := st_zx htb hgv
  have hlt := st_fl hflags
  have hts : ∀ w ∈ wsL_law, w.before #[Value.ref b] s = true := fun w hw => htb w (wsL_law_in w hw)
  have hown : s.vm.findClass RL = some m.cls := hown
  have X : LX p l s m c b L xs D cA cR cL cF := ⟨hx, hb, hml, hown, hts, hX, hbl, hz, hzl, hzx, hlt⟩
  obtain ⟨v, w, hv, hw0, hR⟩ := start_both (N := 5000) (by omega)
  have hA : ∀ q : Nat, s.heap.size ≤ q → (fun q : Nat => s.heap.size ≤ q) q := fun _ h => h
  have hl := lv_entry ([.ref b]) (n := 9) (Nat.le_of_ble_eq_true rfl)
  rw [lg_entry_eq]
  generalize (lg_sl ([.ref b]) ++ List.replicate (9 - (lg_sl ([.ref b])).length) Slot.unset).toArray = ls at hl ⊢
  have hl : lv_has ls 9 [(0, .ref b)] := hl
  have hw : ww (fun q : Nat => s.heap.size ≤ q) s.heap D [] s.heap [] := ⟨vq_P.mpr (fun q h => absurd h List.not_mem_nil), st_dnil, va_S.rf⟩
  refine k_new (bs1 := []) (ci := 10) (C := RX10) (T := TX10) (N := 7) (fs := [.null, .null, .null, .null, .null, .null, .null]) hx hb hts hown hz hw hA inlX10 tyX10 tyX10_ok (by decide +kernel) (by decide +kernel) (by decide +kernel) rfl (fun j hj => by rcases (show j = 0 ∨ j = 1 ∨ j = 2 ∨ j = 3 ∨ j = 4 ∨ j = 5 ∨ j = 6 by omega) with rfl | rfl | rfl | rfl | rfl | rfl | rfl <;> rfl) (Nat.le_of_ble_eq_true rfl) (Nat.le_of_ble_eq_true rfl) dL_law_0 (fun q1 H hw => ?_)
  have hw : ww (fun q : Nat => s.heap.size ≤ q) s.heap D [[(q1, .inr (10, [.null, .null, .null, .null, .null, .null, .null]))]] H [] := hw
  refine lv_dup hx hb dL_law_3 rfl ?_
  refine k_callE (S := A6 × A0 × A8 × A3 × A4 × Nat) (cs := [[(q1, .inr (10, [.null, .null, .null, .null, .null, .null, .null]))]]) (rs := []) (cs1 := fun x => [w10 cA cR (q1, x) v]) (bs1 := fun x => [w10 cA cR (q1, x) v]) (rest := [.ref q1]) hw hA [0] [] [0] rfl rfl rfl (fun _ => rfl) rfl (k_runIE (nA := 0) (As := []) (b := q1) (cs := [[(q1, .inr (10, [.null, .null, .null, .null, .null, .null, .null]))]]) (rs := []) (rest := [.ref q1]) ⟨hx, hb, hml, hown, hts⟩ hz hO hw hA (mX10_init l D cA cR 5000 q1 v hv) gL_law_X10_init rfl rfl rfl (by decide +kernel) (by decide +kernel) (by decide +kernel) rfl (by decide +kernel) rfl ⟨Nat.le_of_ble_eq_true rfl, Nat.le_of_ble_eq_true rfl⟩ hl.1 rfl (Nat.le_of_ble_eq_true rfl) dL_law_4 ⟨Nat.le_of_ble_eq_true rfl, Nat.le_of_ble_eq_true rfl⟩ [0] [] rfl rfl rfl) rfl (fun x1 H locs hw => ?_)
  have hw : ww (fun q : Nat => s.heap.size ≤ q) s.heap D [w10 cA cR (q1, x1) v] H locs := hw
  refine lv_astore_n (lv' := [(1, .ref q1), (0, .ref b)]) hx hb dL_law_7 rfl hl (by decide) rfl (fun ls hl => ?_)
  refine k_new (bs1 := []) (ci := 11) (C := RX11) (T := TX11) (N := 14) (fs := [.null, .null, .int 0, .int 0, .null, .int 0, .int 0, .null, .int 0, .int 0, .int 0, .int 0, .null, .int 0]) hx hb hts hown hz hw hA inlX11 tyX11 tyX11_ok (by decide +kernel) (by decide +kernel) (by decide +kernel) rfl (fun j hj => by rcases (show j = 0 ∨ j = 1 ∨ j = 2 ∨ j = 3 ∨ j = 4 ∨ j = 5 ∨ j = 6 ∨ j = 7 ∨ j = 8 ∨ j = 9 ∨ j = 10 ∨ j = 11 ∨ j = 12 ∨ j = 13 by omega) with rfl | rfl | rfl | rfl | rfl | rfl | rfl | rfl | rfl | rfl | rfl | rfl | rfl | rfl <;> rfl) (Nat.le_of_ble_eq_true rfl) (Nat.le_of_ble_eq_true rfl) dL_law_8 (fun q2 H hw => ?_)
  have hw : ww (fun q : Nat => s.heap.size ≤ q) s.heap D [w10 cA cR (q1, x1) v, [(q2, .inr (11, [.null, .null, .int 0, .int 0, .null, .int 0, .int 0, .null, .int 0, .int 0, .int 0, .int 0, .null, .int 0]))]] H locs := hw
  refine lv_dup hx hb dL_law_11 rfl ?_
  refine k_callE (S := Nat × Nat × Nat × Nat × Nat) (cs := [[(q2, .inr (11, [.null, .null, .int 0, .int 0, .null, .int 0, .int 0, .null, .int 0, .int 0, .int 0, .int 0, .null, .int 0]))]]) (rs := [w10 cA cR (q1, x1) v]) (cs1 := fun x => [w11 cA (q2, x) w]) (bs1 := fun x => [w10 cA cR (q1, x1) v, w11 cA (q2, x) w]) (rest := [.ref q2]) hw hA [1] [0] [0, 1] rfl rfl rfl (fun _ => rfl) rfl (k_runIE (nA := 0) (As := []) (b := q2) (cs := [[(q2, .inr (11, [.null, .null, .int 0, .int 0, .null, .int 0, .int 0, .null, .int 0, .int 0, .int 0, .int 0, .null, .int 0]))]]) (rs := [w10 cA cR (q1, x1) v]) (rest := [.ref q2]) ⟨hx, hb, hml, hown, hts⟩ hz hO hw hA (mX11_init l D cA cR 5000 q2 w hw0) gL_law_X11_init rfl rfl rfl (by decide +kernel) (by decide +kernel) (by decide +kernel) rfl (by decide +kernel) rfl ⟨Nat.le_of_ble_eq_true rfl, Nat.le_of_ble_eq_true rfl⟩ hl.1 rfl (Nat.le_of_ble_eq_true rfl) dL_law_12 ⟨Nat.le_of_ble_eq_true rfl, Nat.le_of_ble_eq_true rfl⟩ [1] [0] rfl rfl rfl) rfl (fun x2 H locs hw => ?_)
  have hw : ww (fun q : Nat => s.heap.size ≤ q) s.heap D [w10 cA cR (q1, x1) v, w11 cA (q2, x2) w] H locs := hw
  refine lv_astore_n (lv' := [(2, .ref q2), (1, .ref q1), (0, .ref b)]) hx hb dL_law_15 rfl hl (by decide) rfl (fun ls hl => ?_)
  refine lv_iconst (v := 1) hx hb dL_law_16 (by decide) ?_
  refine k_newl (N' := 1) hx hb hts hzl hw hA (by decide +kernel) (by decide) (by decide) (by decide) (Nat.le_of_ble_eq_true rfl) (Nat.le_of_ble_eq_true rfl) dL_law_17 (fun q3 H hw => ?_)
  have hw : ww (fun q : Nat => s.heap.size ≤ q) s.heap D [w10 cA cR (q1, x1) v, w11 cA (q2, x2) w, [(q3, .inl (cL, 1, .inr (.inl (fun _ => 0))))]] H locs := hw
  refine lv_astore_n (lv' := [(3, .ref q3), (2, .ref q2), (1, .ref q1), (0, .ref b)]) hx hb dL_law_19 rfl hl (by decide) rfl (fun ls hl => ?_)
  refine lv_iconst (v := 1) hx hb dL_law_20 (by decide) ?_
  refine k_newd (N' := 1) hx hb hts hzl hw hA (by decide +kernel) (by decide) (by decide) (by decide) (Nat.le_of_ble_eq_true rfl) (Nat.le_of_ble_eq_true rfl) dL_law_21 (fun q4 H hw => ?_)
  have hw : ww (fun q : Nat => s.heap.size ≤ q) s.heap D [w10 cA cR (q1, x1) v, w11 cA (q2, x2) w, [(q3, .inl (cL, 1, .inr (.inl (fun _ => 0))))], [(q4, .inl (cF, 1, .inr (.inr (.inr (.inl (fun _ => 0))))))]] H locs := hw
  refine lv_astore (lv' := [(4, .ref q4), (3, .ref q3), (2, .ref q2), (1, .ref q1), (0, .ref b)]) hx hb dL_law_23 hl (by decide) rfl (fun ls hl => ?_)
  refine lv_iconst (v := nI (6 * 0)) hx hb dL_law_25 (by decide) ?_
  refine lv_istore (lv' := [(5, .int (nI (6 * 0))), (4, .ref q4), (3, .ref q3), (2, .ref q2), (1, .ref q1), (0, .ref b)]) hx hb dL_law_26 hl (by decide) rfl (fun ls hl => ?_)
  refine W.widen (k := 124 + 0) (n := 9116 + 6 * 0) (Nat.le_of_ble_eq_true rfl) (Nat.le_of_ble_eq_true rfl) ?_
  refine law_loop (N := 5000) (by omega) X hL (k0 := 124) (s0 := 9116) (a0 := (q1, x1)) (a1 := (q2, x2)) (by omega) (by omega) ?_ 512 0 v w (fun _ => 0) (fun _ => 0) H locs ls (by omega) (by omega) hR hw (lv_sub hl [5, 4, 3, 2, 1, 0] rfl)
  intro H locs ls hf
  refine va_forget hf ?_
  refine W.base ?_
  refine lv_iconst (v := 1) hx hb dL_law_1553 (by decide) ?_
  exact lw_ret (Drawn.sameBut.refl s.drawn lw_cs) hx hb hr hlk dL_law_1554
