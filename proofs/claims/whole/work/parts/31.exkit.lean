/-! methods that may throw: the class that is thrown by its number, the blocks unchanged then -/
def exN : Nat → String
  | 0 => "java/lang/IllegalArgumentException"
  | 1 => "java/lang/IllegalStateException"
  | _ => "java/lang/IndexOutOfBoundsException"
def exC : Nat → Nat
  | 0 => 158
  | 1 => 121
  | _ => 251
def exS : List String := ["java/lang/RuntimeException", "java/lang/Exception"]
/-- the words that a call may not carry in its list -/
def xB : List Cond := [.castable "java/lang/IllegalArgumentException" "java/lang/IllegalArgumentException", .castable "java/lang/IllegalStateException" "java/lang/IllegalStateException", .castable "java/lang/IndexOutOfBoundsException" "java/lang/IndexOutOfBoundsException", .declares ⟨"java/lang/RuntimeException", "<init>", "(Ljava/lang/String;)V"⟩, .declares ⟨"java/lang/Exception", "<init>", "(Ljava/lang/String;)V"⟩, .declares ⟨"java/lang/Throwable", "<init>", "(Ljava/lang/String;)V"⟩]
theorem xB_tab : ∀ w ∈ xB, w.onTables = true := by decide +kernel
theorem xB_warm {s U : State} (hW : s.WarmedH U.vm) (h : ∀ w ∈ xB, va_Nw w s) : ∀ w ∈ xB, va_Nw w U := by
  intro w hw
  have hz := h w hw
  simp only [xB, List.mem_cons, List.not_mem_nil, or_false] at hw
  rcases hw with rfl | rfl | rfl | rfl | rfl | rfl <;> first | exact va_Nw.warmC hW hz | exact va_Nw.warmD hW hz
/-- the texts -/
def xT : List (Nat × String) := [(119, "the text is full"), (156, "the index is negative"), (219, "no state is saved"), (241, "an argument is out of range"), (249, "there is no such thing"), (252, "there are too many signals")]
def zx (A : Nat → Prop) (U : State) (H : Heap) : Prop := (∀ w ∈ xB, va_Nw w U) ∧ (∀ i ∈ xT, ∃ a, vk_R RX10 i.1 i.2 a U) ∧ (∀ i j : Nat, i < 3 → j < 3 → i ≠ j → va_Nc (exN i) (exN j) U) ∧ vx_Zq Bundle.tN "UNASSIGNED_STACK" Bundle.steD A U H ∧ vx_Zq Bundle.tN "SUPPRESSED_SENTINEL" Bundle.listD A U H
theorem zx.warm {A : Nat → Prop} {s U : State} {H : Heap} (hW : s.WarmedH U.vm) (h : zx A s H) : zx A U H := ⟨xB_warm hW h.1, fun i hi => by obtain ⟨a, ha⟩ := h.2.1 i hi; exact ⟨a, vk_R.warm hW ha⟩, fun i j h1 h2 h3 => va_Nc.moved hW.alike (h.2.2.1 i j h1 h2 h3), vx_Zq.moved hW.alike h.2.2.2.1, vx_Zq.moved hW.alike h.2.2.2.2⟩
theorem zx.same {A : Nat → Prop} {s U : State} {H : Heap} (hv : s.vm = U.vm) (h : zx A s H) : zx A U H := ⟨fun w hw => va_Nw.same (xB_tab w hw) hv (h.1 w hw), fun i hi => by obtain ⟨a, ha⟩ := h.2.1 i hi; exact ⟨a, vk_R.same hv.symm ha⟩, fun i j h1 h2 h3 => va_Nc.moved (by rw [← hv]; exact Vm.Alike.refl s.vm) (h.2.2.1 i j h1 h2 h3), vx_Zq.moved (by rw [← hv]; exact Vm.Alike.refl s.vm) h.2.2.2.1, vx_Zq.moved (by rw [← hv]; exact Vm.Alike.refl s.vm) h.2.2.2.2⟩
theorem zx.go {A B : Nat → Prop} {s : State} {H H1 : Heap} (h : zx A s H) (hAB : ∀ q, B q → A q) (hq : ∀ a : Nat, a < H.size → ¬ A a → H1[a]? = H[a]?) : zx B s H1 := ⟨h.1, h.2.1, h.2.2.1, (h.2.2.2.1.kept hq).narrow hAB, (h.2.2.2.2.kept hq).narrow hAB⟩
section KX
variable {p : Program} {l : Launch} {e : Env} {R : Room} {s : State} {m : MethodId} {args : Array Value} {below : List Frame} {meth : Method} {c : Code} {H H0 : Heap} {locs : List Loc} {cells slots : Nat} {Q : State → Prop} {D : va_G} {cA cR : ClassId} {A : Nat → Prop} {bs bs1 cs cs1 rs : List va_W} {pc : Nat} {ls : Array Slot} {rest : List Value} {cc : ByteArray}
def mPX (D : va_G) (cA cR : ClassId) (av : List Value) (cs : List va_W) (sz : Nat) : Array Value → State → Prop := va_Pc av (fun U => U.heap.size = sz ∧ va_P D vwCl (bw cs) U.heap ∧ zk D cA cR U ∧ va_D (fun _ => True) (bw cs) ∧ zx (va_A (bw cs) sz) U U.heap)
def xQ (D : va_G) (A : Nat → Prop) (r : Nat ⊕ (Option Value × List va_W)) : Array Value → State → Outcome → State → Prop := fun a st oc t => ∃ x, r = .inr x ∧ mQ D A x.1 x.2 a st oc t
def xX (D : va_G) (A : Nat → Prop) (cs : List va_W) (r : Nat ⊕ (Option Value × List va_W)) : String → State → State → Prop := fun E st t => ∃ k, r = .inl k ∧ E = exN k ∧ va_P D vwCl (bw cs) t.heap ∧ va_D A (bw cs) ∧ va_F A st t
/-- a contract of a method that may throw: r is what it throws, or what it answers and leaves -/
def MX (l : Launch) (y : MethodName) (ws : List Cond) (rm : Room) (D : va_G) (cA cR : ClassId) (av : List Value) (cs : List va_W) (r : Nat ⊕ (Option Value × List va_W)) (mc ms : Nat) : Prop := ∀ sz : Nat, vx_Met l y ws rm (mPX D cA cR av cs sz) (xQ D (va_A (bw cs) sz) r) (xX D (va_A (bw cs) sz) cs r) mc ms (va_A (bw cs) sz)
theorem mPX_blind {av : List Value} {sz : Nat} : FrameBlind (mPX D cA cR av cs sz) := fun a U g mk h => ⟨h.1, h.2.1, h.2.2.1, zk.same (s := U) (U := U.calling g mk a) rfl h.2.2.2.1, h.2.2.2.2.1, zx.same (s := U) (U := U.calling g mk a) rfl h.2.2.2.2.2⟩
theorem mPX_pre {av : List Value} (hP : va_P D vwCl (bw cs) H) (hD : va_D A (bw cs)) (hz : zk D cA cR s) (hzx : zx (va_A (bw cs) H.size) s H) : ∀ U : State, U.heap = H → s.WarmedH U.vm → mPX D cA cR av cs H.size av.toArray U := fun U hU hW => ⟨rfl, by rw [hU], by rw [hU]; exact hP, zk.warm hW hz, hD.weaken (fun _ _ _ _ => trivial), by rw [hU]; exact zx.warm hW hzx⟩
theorem MX.ofW {y : MethodName} {ws ws' : List Cond} {rm : Room} {av : List Value} {r : Nat ⊕ (Option Value × List va_W)} {mc ms maxL : Nat} {ret : Option FieldType} (hy : plainName y.cls = true) (hw : ws = Cond.code y cc maxL ret :: ws') (hlen : (lg_sl av).length ≤ maxL)
    (body : ∀ (p : Program) (e : Env) (s : State) (m : MethodId) (args : Array Value) (below : List Frame) (meth : Method) (c : Code) (A : Nat → Prop) (ls : Array Slot) (Q : State → Prop) (H : Heap) (locs : List Loc), p.tables.exec = Jvm.exec → c.code = cc → meth.sig.returnType = ret → meth.locks = false → c.maxLocals = maxL → s.vm.findClass y.cls = some m.cls → meth.name = y.name → (∀ w ∈ ws, w.before args s = true) → zk D cA cR s → (∀ q : Nat, s.heap.size ≤ q → A q) → zx A s s.heap → (∀ x ∈ c.exceptionTable.toList, False) → Q = vx_MQ below (xQ D A r) (xX D A cs r) args s mc ms A → ww A s.heap D cs H locs → lv_has ls maxL (lv_args 0 av) →
      W p l e rm s m args below meth c H locs 0 0 Q (F0 m 0 ls [])) : MX l y ws rm D cA cR av cs r mc ms := by
  intro sz
  refine vx_ofW (cc := cc) (maxL := maxL) (ret := ret) hy hw ?_
  intro p e s m args below meth c s₁ B hml hxt hv
  obtain ⟨rfl, hsz, hP, hK, hD0, hzx⟩ := hv
  subst hsz
  have hD := hD0.self (sz := s.heap.size)
  have hl := lv_entry av (n := maxL) hlen
  rw [lg_entry_eq]
  have hA : ∀ q : Nat, s.heap.size ≤ q → va_A (bw cs) s.heap.size q := fun q h => Or.inr h
  exact body p e s m _ below meth c _ _ _ _ _ B.exec B.bytes B.returns B.notSynchronized hml (findClass_of_methodNamed B.named) ((name_of_methodNamed B.named B.method).1) (atoms_spec (ws := ws) B.pre) hK hA hzx hxt rfl ⟨hP, hD, va_S.rf⟩ hl
theorem k_post {Q' : State → Prop} {g : JFrame} (h : ∀ t, Q t → Q' t) (k : W p l e R s m args below meth c H locs cells slots Q g) : W p l e R s m args below meth c H locs cells slots Q' g := by
  intro T hT X
  obtain ⟨t, a, b⟩ := k T hT X
  exact ⟨t, a, h t b⟩
theorem k_xret {g : JFrame} {o : Option Value} {XC : String → State → State → Prop} {mc ms : Nat} (k : W p l e R s m args below meth c H locs cells slots (MQ below (mQ D A o cs1) args s mc ms A) g) : W p l e R s m args below meth c H locs cells slots (vx_MQ below (xQ D A (.inr (o, cs1))) XC args s mc ms A) g :=
  vx_ret (k_post (fun t h => by obtain ⟨oo, h1, h2, h3, h4⟩ := h; exact ⟨oo, h1, h2, ⟨_, rfl, h3⟩, h4⟩) k)
theorem k_out {k : Nat} {q : Addr} {ce : Cell} {Qc : Array Value → State → Outcome → State → Prop} {mc ms : Nat} (hxt : ∀ x ∈ c.exceptionTable.toList, False) (hlk : meth.locks = false) (hw : ww A s.heap D cs H locs) (hce : H[q]? = some ce) (hv : ce.vm = .none) (hcl : s.vm.findClass (exN k) = some ce.cls) (hc : cells ≤ mc) (hs : slots ≤ ms) : vx_W p l e R s m args below meth c H locs cells slots (vx_MQ below Qc (xX D A cs (.inl k)) args s mc ms A) (F0 m pc ls rest) q :=
  vx_out (fun x hx => (hxt x hx).elim) hlk hce hv hcl (fun t ht _ => ⟨k, rfl, rfl, by rw [ht]; exact hw.1, hw.2.1, hw.2.2.F ht⟩) hw.2.2.2.2 hc hs
theorem k_throw {k ik is mc ms : Nat} {tx : String} {Ts : List Cond} {Qc : Array Value → State → Outcome → State → Prop} (hk : k < 3) (hlt : l.stackTraces = false) (hx : p.tables.exec = Jvm.exec) (hb : c.code = cc) (hlk : meth.locks = false) (hml : c.maxLocals = ls.size) (hown : s.vm.findClass RX10 = some m.cls) (hts : ∀ w ∈ Ts, w.before args s = true) (hzx : zx A s s.heap) (hxt : ∀ x ∈ c.exceptionTable.toList, False) (hw : ww A s.heap D cs H locs)
    (h1 : Cond.classLink RX10 ik (exN k) ∈ Ts) (h2 : Cond.initialized (exN k) ∈ Ts) (h3 : ∀ w ∈ (vx_atS RX10 (exC k) (exN k) exS).filter goodWord, w ∈ Ts) (h4 : (is, tx) ∈ xT) (d0 : decode cc pc = .ok (.new ik, 3)) (d3 : decode cc (pc + 3) = .ok (.dup, 1)) (d4 : decode cc (pc + 4) = .ok (.ldc is, 2)) (d6 : decode cc (pc + 6) = .ok (.invokespecial (exC k), 3)) (d9 : decode cc (pc + 9) = .ok (.athrow, 1))
    (hRf : 5 < R.frames) (hRl : (rest.map fun v => v.category).sum + 82 ≤ R.locals) (hRc : cells + 1 ≤ R.cells) (hRs : slots + 6 ≤ R.slots) (hc : cells + 1 ≤ mc) (hs : slots + 6 ≤ ms) : W p l e R s m args below meth c H locs cells slots (vx_MQ below Qc (xX D A cs (.inl k)) args s mc ms A) (F0 m pc ls rest) := by
  obtain ⟨sa, hsa⟩ := hzx.2.1 _ h4
  have hk3 : k = 0 ∨ k = 1 ∨ k = 2 := by omega
  have hbad : ∀ w ∈ (vx_atS RX10 (exC k) (exN k) exS).filter (fun w => !goodWord w), w ∈ xB := by
    rcases hk3 with rfl | rfl | rfl <;> decide +kernel
  have hg0 : ∀ w ∈ vx_atS RX10 (exC k) (exN k) exS, vx_ot w = true := by
    rcases hk3 with rfl | rfl | rfl <;> decide +kernel
  have hgd : ∀ w ∈ Cond.classLink RX10 ik (exN k) :: Cond.initialized (exN k) :: vx_atS RX10 (exC k) (exN k) exS, vx_ot w = true := by
    intro w hw
    rcases List.mem_cons.mp hw with rfl | hw
    · rfl
    rcases List.mem_cons.mp hw with rfl | hw
    · rfl
    exact hg0 w hw
  refine vx_throwS (names := exS) hx hb hlt hown (by rcases hk3 with rfl | rfl | rfl <;> decide +kernel) (by decide +kernel) (hts _ h1) (hts _ h2) hsa (vx_hat (fun w hw => hts w (h3 w hw)) hbad (fun w hw => va_Nw.use (xB_tab w hw) (hzx.1 w hw))) hgd hzx.2.2.2.1 hzx.2.2.2.2 hw.2.2 hml.symm d0 d3 d4 d6 d9 (fun x hx => (hxt x hx).elim) hRf hRl hRc hRs hlk (fun t _ hz hk => ?_) hw.2.2.2.2 hc hs
  refine ⟨k, rfl, rfl, ?_, hw.2.1, Nat.le_trans hw.2.2.1 hz, fun q h1 h2 => ?_⟩
  · rw [vq_P]
    intro q hq
    have h9 := vq_P.mp hw.1 q hq
    exact h9.kept (hk q.1 h9.lt)
  · rw [hk q (Nat.lt_of_lt_of_le h1 hw.2.2.1)]
    exact hw.2.2.2.1 q h1 h2
theorem k_xr {mc ms : Nat} {g : JFrame} {o : Option Value} {aa : Array Value} {A1 : Nat → Prop} (hr : vx_Run p l e R s m args below meth c H locs cells slots mc ms g rest (xQ D A1 (.inr (o, cs1)) aa) (xX D A1 cs (.inr (o, cs1))) A1) : va_Run p l e R s m args below meth c H locs cells slots mc ms g rest (mQ D A1 o cs1 aa) A1 := by
  intro T hT X
  rcases hr T hT X with ⟨v, st₀, t, T', L, h0, X', hL, e1, e2, ⟨x, hx, hq⟩, st⟩ | ⟨q, st₀, t, T', L, E, ce, h0, X', hL, e1, e2, ⟨k, hk, -⟩, hce, hcv, hcl, st⟩
  · cases hx
    exact ⟨v, st₀, t, T', L, h0, X', hL, e1, e2, hq, st⟩
  · cases hk
theorem k_xt {mc ms k : Nat} {st0 : List Value} {aa : Array Value} (hw : ww A H0 D bs H locs) (hA : ∀ q, H0.size ≤ q → A q) (isC isR isF : List Nat) (hC : isC.map (fun i => bs[i]?) = cs.map some) (hR : isR.map (fun i => bs[i]?) = rs.map some) (hn : va_nd (isR ++ isC) = true) (hF : isF.map (fun i => (rs ++ cs)[i]?) = bs.map some) (hnF : va_nd isF = true)
    (hr : vx_Run p l e R s m args below meth c H locs cells slots mc ms (F0 m pc ls st0) rest (xQ D (va_A (bw cs) H.size) (.inl k) aa) (xX D (va_A (bw cs) H.size) cs (.inl k)) (va_A (bw cs) H.size))
    (kx : ∀ (H1 : Heap) (locs1 : List Loc) (q : Addr) (ce : Cell), ww A H0 D bs H1 locs1 → H1[q]? = some ce → ce.vm = .none → s.vm.findClass (exN k) = some ce.cls → vx_W p l e R s m args below meth c H1 locs1 (cells + mc) (slots + ms) Q (F0 m pc ls rest) q) : W p l e R s m args below meth c H locs cells slots Q (F0 m pc ls st0) := by
  intro T hT X
  rcases hr T hT X with ⟨v, st₀, t, T', L, h0, X', hL, e1, e2, ⟨x, hx, hq⟩, st⟩ | ⟨q, st₀, t, T', L, E, ce, h0, X', hL, e1, e2, ⟨k', hk', hE, hP1, hD1, hz, hkp⟩, hce, hcv, hcl, st⟩
  · cases hx
  · cases hk'
    subst hE
    rw [h0] at hz hkp
    have hF0 := k_free hw hA hC
    rw [← e1] at hP1
    obtain ⟨hP2, hD2⟩ := k_join hw hA hC hR hn hF hnF (H1 := T'.heap) (fun q h1 h2 => by rw [e1]; exact hkp q h1 h2) hP1 hD1
    obtain ⟨t2, a1, b1⟩ := kx T'.heap (locs ++ L) q ce ⟨hP2, hD2, ⟨Nat.le_trans hw.2.2.1 (by rw [e1]; exact hz), fun q h1 h2 => by rw [e1, hkp q (Nat.lt_of_lt_of_le h1 hw.2.2.1) (fun z => h2 (hF0 q z))]; exact hw.2.2.2.1 q h1 h2, fun q hq => by
        rcases List.mem_append.mp hq with h | h
        · exact hw.2.2.2.2 q h
        · exact hF0 _ (hL q h)⟩⟩ (by rw [e1]; exact hce) hcv hcl T' rfl X'
    exact ⟨t2, st.trans a1, b1⟩
variable {y : MethodName} {ws ws' : List Cond} {rm : Room} {bytes : ByteArray} {maxL index nL mc ms ci N b nA : Nat} {ret : Option FieldType} {Ts : List Cond} {own C host : String} {T : u_T} {As fs st0 st1 : List Value} {o : Option Value} {r : Nat ⊕ (Option Value × List va_W)}
theorem k_runSX (S : CallFix p m c cc nL s args Ts own) (hz : zk D cA cR s) (hzx : zx A s s.heap) (hw : ww A s.heap D bs H locs) (hA : ∀ q, s.heap.size ≤ q → A q) (hM : MX l y ws rm D cA cR As cs r mc ms) (hT : GoodIn Ts (va_wsS own index y ws)) (hwc : ws = Cond.code y bytes maxL ret :: ws') (hrc : rm.cells = mc) (hrs : rm.slots = ms)
    (hd : y.cls ≠ "java/lang/invoke/MethodHandle" ∧ y.cls ≠ "java/lang/invoke/VarHandle" ∧ (parseMethodDescriptor y.desc).map (fun d => d.parameters.length) = some nA) (hnA : As.length = nA) (hR : rm.frames + 1 ≤ R.frames ∧ 8 + (maxL + 11) + rm.locals ≤ R.locals) (hsize : ls.size = nL) (hstk : st0 = As.reverse ++ rest) (hrest : (rest.map fun v => v.category).sum ≤ 8) (hdg : decode cc pc = .ok (.invokestatic index, 3)) (hf : cells + mc ≤ R.cells ∧ slots + ms ≤ R.slots)
    (isC isR : List Nat) (hC : isC.map (fun i => bs[i]?) = cs.map some) (hRs : isR.map (fun i => bs[i]?) = rs.map some) (hn : va_nd (isR ++ isC) = true) : vx_Run p l e R s m args below meth c H locs cells slots mc ms (F0 m pc ls st0) rest (xQ D (va_A (bw cs) H.size) r As.toArray) (xX D (va_A (bw cs) H.size) cs r) (va_A (bw cs) H.size) := by
  obtain ⟨hP1, hD1⟩ := k_cut hw hA isC isR hC hRs hn
  exact vx_runS (As := As) (rest := rest) (n := nA) S (hM H.size) (va_cwS nA S.2.2.2.2 hT hwc hrc hrs hd hR) ⟨mPX_blind, mPX_pre hP1 hD1 hz (hzx.go (k_free hw hA hC) hw.2.2.2.1)⟩ rfl hnA hsize hstk (lv_room hrest) hdg hf
theorem k_runVX (S : CallFix p m c cc nL s args Ts own) (hz : zk D cA cR s) (hzx : zx A s s.heap) (hw : ww A s.heap D bs H locs) (hA : ∀ q, s.heap.size ≤ q → A q) (hM : MX l y ws rm D cA cR (.ref b :: As) cs r mc ms) (hT : GoodIn Ts (wsV own index C y ws)) (hwc : ws = Cond.code y bytes maxL ret :: ws') (hrc : rm.cells = mc) (hrs : rm.slots = ms)
    (hd : y.cls = C ∧ y.cls ≠ "java/lang/invoke/MethodHandle" ∧ y.cls ≠ "java/lang/invoke/VarHandle" ∧ (parseMethodDescriptor y.desc).map (fun d => d.parameters.length) = some nA) (hnA : As.length = nA) (hR : rm.frames + 1 ≤ R.frames ∧ 8 + (maxL + 11) + rm.locals ≤ R.locals) (hc : vwCl[ci]? = some (C, T, N)) (he : (bw cs)[0]? = some (b, .inr (ci, fs))) (hsize : ls.size = nL) (hstk : st0 = As.reverse ++ .ref b :: rest) (hrest : (rest.map fun v => v.category).sum ≤ 8) (hdg : decode cc pc = .ok (.invokevirtual index, 3)) (hf : cells + mc ≤ R.cells ∧ slots + ms ≤ R.slots)
    (isC isR : List Nat) (hC : isC.map (fun i => bs[i]?) = cs.map some) (hRs : isR.map (fun i => bs[i]?) = rs.map some) (hn : va_nd (isR ++ isC) = true) : vx_Run p l e R s m args below meth c H locs cells slots mc ms (F0 m pc ls st0) rest (xQ D (va_A (bw cs) H.size) r (.ref b :: As).toArray) (xX D (va_A (bw cs) H.size) cs r) (va_A (bw cs) H.size) := by
  obtain ⟨hP1, hD1⟩ := k_cut hw hA isC isR hC hRs hn
  exact vx_runV (As := As) (rest := rest) (n := nA) S (hM H.size) (cwV nA S.2.2.2.2 hT hwc hrc hrs hd hR) ⟨mPX_blind, va_recv hz.1 hP1 hc he, mPX_pre hP1 hD1 hz (hzx.go (k_free hw hA hC) hw.2.2.2.1)⟩ rfl hnA hsize hstk (lv_room hrest) hdg hf
end KX
