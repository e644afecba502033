/-! the law's own calls: with a table of handlers, returning always -/
section KL
variable {p : Program} {l : Launch} {e : Env} {R : Room} {s : State} {m : MethodId} {args : Array Value} {below : List Frame} {meth : Method} {c : Code} {H H0 : Heap} {locs : List Loc} {cells slots : Nat} {Q : State → Prop} {D : va_G} {cA cR cL cF : ClassId} {A : Nat → Prop} {bs bs1 cs cs1 rs : List va_W} {pc : Nat} {ls : Array Slot} {rest : List Value} {cc : ByteArray}
def zl (D : va_G) (cL cF : ClassId) (U : State) : Prop := va_K D vwCl [(cL, .long), (cF, .double)] U
def mPL (D : va_G) (cA cR cL cF : ClassId) (av : List Value) (cs : List va_W) (sz : Nat) : Array Value → State → Prop := va_Pc av (fun U => U.heap.size = sz ∧ va_P D vwCl (bw cs) U.heap ∧ zk D cA cR U ∧ va_D (fun _ => True) (bw cs) ∧ zx (va_A (bw cs) sz) U U.heap ∧ zl D cL cF U)
def ML_ (l : Launch) (y : MethodName) (ws : List Cond) (rm : Room) (D : va_G) (cA cR cL cF : ClassId) (av : List Value) (cs : List va_W) (o : Option Value) (cs1 : List va_W) (mc ms : Nat) : Prop := ∀ sz : Nat, vx_Met l y ws rm (mPL D cA cR cL cF av cs sz) (mQ D (va_A (bw cs) sz) o cs1) (fun _ _ _ => False) mc ms (va_A (bw cs) sz)
theorem mPL_blind {av : List Value} {sz : Nat} : FrameBlind (mPL D cA cR cL cF av cs sz) := fun a U g mk h => ⟨h.1, h.2.1, h.2.2.1, zk.same (s := U) (U := U.calling g mk a) rfl h.2.2.2.1, h.2.2.2.2.1, zx.same (s := U) (U := U.calling g mk a) rfl h.2.2.2.2.2.1, va_K.moved (u := U) (U := U.calling g mk a) (Vm.Alike.refl U.vm) h.2.2.2.2.2.2⟩
theorem mPL_pre {av : List Value} (hP : va_P D vwCl (bw cs) H) (hD : va_D A (bw cs)) (hz : zk D cA cR s) (hzx : zx (va_A (bw cs) H.size) s H) (hzl : zl D cL cF s) : ∀ U : State, U.heap = H → s.WarmedH U.vm → mPL D cA cR cL cF av cs H.size av.toArray U := fun U hU hW => ⟨rfl, by rw [hU], by rw [hU]; exact hP, zk.warm hW hz, hD.weaken (fun _ _ _ _ => trivial), by rw [hU]; exact zx.warm hW hzx, va_K.moved hW.alike hzl⟩
theorem ML_.ofW {y : MethodName} {ws ws' : List Cond} {rm : Room} {av : List Value} {o : Option Value} {mc ms maxL : Nat} {ret : Option FieldType} {hh : List (Nat × Nat × Nat × Nat)} (hy : plainName y.cls = true) (hw : ws = Cond.codeWith y cc maxL ret hh :: ws') (hlen : (lg_sl av).length ≤ maxL)
    (body : ∀ (p : Program) (e : Env) (s : State) (m : MethodId) (args : Array Value) (below : List Frame) (meth : Method) (c : Code) (A : Nat → Prop) (ls : Array Slot) (Q : State → Prop) (H : Heap) (locs : List Loc), p.tables.exec = Jvm.exec → c.code = cc → meth.sig.returnType = ret → meth.locks = false → c.maxLocals = maxL → s.vm.findClass y.cls = some m.cls → (∀ w ∈ ws, w.before args s = true) → zk D cA cR s → zl D cL cF s → (∀ q : Nat, s.heap.size ≤ q → A q) → zx A s s.heap → c.exceptionTable.toList = tableOf hh → Q = vx_MQ below (mQ D A o cs1) (fun _ _ _ => False) args s mc ms A → ww A s.heap D cs H locs → lv_has ls maxL (lv_args 0 av) →
      W p l e rm s m args below meth c H locs 0 0 Q (F0 m 0 ls [])) : ML_ l y ws rm D cA cR cL cF av cs o cs1 mc ms := by
  intro sz
  refine vx_ofWH (cc := cc) (maxL := maxL) (ret := ret) (hh := hh) hy hw ?_
  intro p e s m args below meth c s₁ B hml hv
  obtain ⟨rfl, hsz, hP, hK, hD0, hzx, hzl⟩ := hv
  subst hsz
  have hD := hD0.self (sz := s.heap.size)
  have hl := lv_entry av (n := maxL) hlen
  rw [lg_entry_eq]
  have hA : ∀ q : Nat, s.heap.size ≤ q → va_A (bw cs) s.heap.size q := fun q h => Or.inr h
  have hts := atoms_spec (ws := ws) B.pre
  exact body p e s m _ below meth c _ _ _ _ _ B.exec B.bytes B.returns B.notSynchronized hml (findClass_of_methodNamed B.named) hts hK hzl hA hzx (vx_table (x := y) B (hts _ (by rw [hw]; exact List.mem_cons_self))) rfl ⟨hP, hD, va_S.rf⟩ hl
theorem k_last (hx : p.tables.exec = Jvm.exec) (hb : c.code = cc) (hzl : zl D cL cF s) (hw : ww A H0 D bs H locs) (j : Nat) {a n : Nat} {f : Nat → Int64} (hi : bs[j]? = some [(a, .inl (cL, n, .inr (.inl f)))]) {i : Int32} {x : Int64} (hin : vp_in i n) (hdg : decode cc pc = .ok (.lastore, 1)) (hbs : bs.set j [(a, .inl (cL, n, .inr (.inl (vp_updL f i.toNatClampNeg x))))] = bs1)
    (kk : ∀ (H1 : Heap) (locs1 : List Loc), ww A H0 D bs1 H1 locs1 → W p l e R s m args below meth c H1 locs1 cells slots Q (F0 m (pc + 1) ls rest)) : W p l e R s m args below meth c H locs cells slots Q (F0 m pc ls (.long x :: .int i :: .ref a :: rest)) := by
  obtain ⟨k0, h1, h2⟩ := bw_at bs j _ hi
  refine va_last hx hb hzl hw.1 hw.2.1 hw.2.2 k0 0 h1 rfl hin hdg (fun H1 locs1 hP hD hS => kk H1 locs1 ⟨?_, ?_, hS⟩)
  · rw [← hbs, ← h2]; exact hP
  · rw [← hbs, ← h2]; exact hD
theorem k_dast (hx : p.tables.exec = Jvm.exec) (hb : c.code = cc) (hzl : zl D cL cF s) (hw : ww A H0 D bs H locs) (j : Nat) {a n : Nat} {f : Nat → UInt64} (hi : bs[j]? = some [(a, .inl (cF, n, .inr (.inr (.inr (.inl f)))))]) {i : Int32} {x : UInt64} (hin : vp_in i n) (hdg : decode cc pc = .ok (.dastore, 1)) (hbs : bs.set j [(a, .inl (cF, n, .inr (.inr (.inr (.inl (vf_upd f i.toNatClampNeg x))))))] = bs1)
    (kk : ∀ (H1 : Heap) (locs1 : List Loc), ww A H0 D bs1 H1 locs1 → W p l e R s m args below meth c H1 locs1 cells slots Q (F0 m (pc + 1) ls rest)) : W p l e R s m args below meth c H locs cells slots Q (F0 m pc ls (.double x :: .int i :: .ref a :: rest)) := by
  obtain ⟨k0, h1, h2⟩ := bw_at bs j _ hi
  refine va_dast hx hb hzl hw.1 hw.2.1 hw.2.2 k0 1 h1 rfl hin hdg (fun H1 locs1 hP hD hS => kk H1 locs1 ⟨?_, ?_, hS⟩)
  · rw [← hbs, ← h2]; exact hP
  · rw [← hbs, ← h2]; exact hD
/-- caught by the row x of the table; each row ahead of it is another exception's -/
theorem k_catch {k : Nat} {q : Addr} {ce : Cell} {Ts : List Cond} (hts : ∀ w ∈ Ts, w.before args s = true) (hown : s.vm.findClass RL = some m.cls) (hzx : zx A s s.heap) {pre suf : List ExceptionTableEntry} {x : ExceptionTableEntry} (hsplit : c.exceptionTable.toList = pre ++ x :: suf) (hk : k < 3)
    (hpass : ∀ z ∈ pre, z.catchType ≠ 0 ∧ ∃ j : Nat, j < 3 ∧ k ≠ j ∧ Cond.classLink RL z.catchType (exN j) ∈ Ts) (hcov : covers x pc = true) (h0 : x.catchType ≠ 0) (hlink : Cond.classLink RL x.catchType (exN k) ∈ Ts) (hce : H[q]? = some ce) (hv : ce.vm = .none) (hcl : s.vm.findClass (exN k) = some ce.cls)
    (kk : W p l e R s m args below meth c H locs cells slots Q (F0 m x.handlerPc ls [.ref q])) : vx_W p l e R s m args below meth c H locs cells slots Q (F0 m pc ls rest) q := by
  refine vx_catch hown pre x suf hsplit (fun z hz => ?_) hcov h0 (hts _ hlink) (va_Nw.use rfl (hzx.1 (.castable (exN k) (exN k)) (by
    rcases (show k = 0 ∨ k = 1 ∨ k = 2 by omega) with rfl | rfl | rfl <;> decide +kernel))) hce hv hcl kk
  obtain ⟨h1, j, h2, h3, h4⟩ := hpass z hz
  exact Or.inr ⟨h1, exN j, hts _ h4, hzx.2.2.1 k j hk h2 h3⟩
theorem k_xr0 {mc ms : Nat} {g : JFrame} {Qa : State → Outcome → State → Prop} {A1 : Nat → Prop} (hr : vx_Run p l e R s m args below meth c H locs cells slots mc ms g rest Qa (fun _ _ _ => False) A1) : va_Run p l e R s m args below meth c H locs cells slots mc ms g rest Qa A1 := by
  intro T hT X
  rcases hr T hT X with h | ⟨q, st₀, t, T', L, E, ce, h0, X', hL, e1, e2, hf, -⟩
  · exact h
  · exact hf.elim
variable {y : MethodName} {ws ws' : List Cond} {rm : Room} {bytes : ByteArray} {maxL index nL mc ms nA : Nat} {ret : Option FieldType} {Ts : List Cond} {own : String} {As st0 : List Value} {o : Option Value} {hh : List (Nat × Nat × Nat × Nat)}
theorem k_runL (S : CallFix p m c cc nL s args Ts own) (hz : zk D cA cR s) (hzl : zl D cL cF s) (hzx : zx A s s.heap) (hw : ww A s.heap D bs H locs) (hA : ∀ q, s.heap.size ≤ q → A q) (hM : ML_ l y ws rm D cA cR cL cF As cs o cs1 mc ms) (hT : GoodIn Ts (va_wsS own index y ws)) (hwc : ws = Cond.codeWith y bytes maxL ret hh :: ws') (hrc : rm.cells = mc) (hrs : rm.slots = ms)
    (hd : y.cls ≠ "java/lang/invoke/MethodHandle" ∧ y.cls ≠ "java/lang/invoke/VarHandle" ∧ (parseMethodDescriptor y.desc).map (fun d => d.parameters.length) = some nA) (hnA : As.length = nA) (hR : rm.frames + 1 ≤ R.frames ∧ 8 + (maxL + 11) + rm.locals ≤ R.locals) (hsize : ls.size = nL) (hstk : st0 = As.reverse ++ rest) (hrest : (rest.map fun v => v.category).sum ≤ 8) (hdg : decode cc pc = .ok (.invokestatic index, 3)) (hf : cells + mc ≤ R.cells ∧ slots + ms ≤ R.slots)
    (isC isR : List Nat) (hC : isC.map (fun i => bs[i]?) = cs.map some) (hRs : isR.map (fun i => bs[i]?) = rs.map some) (hn : va_nd (isR ++ isC) = true) : va_Run p l e R s m args below meth c H locs cells slots mc ms (F0 m pc ls st0) rest (mQ D (va_A (bw cs) H.size) o cs1 As.toArray) (va_A (bw cs) H.size) := by
  obtain ⟨hP1, hD1⟩ := k_cut hw hA isC isR hC hRs hn
  exact k_xr0 (vx_runSX (hh := hh) (As := As) (rest := rest) (n := nA) S (hM H.size) (vx_cwSW nA S.2.2.2.2 hT hwc hrc hrs hd hR) ⟨mPL_blind, mPL_pre hP1 hD1 hz (hzx.go (k_free hw hA hC) hw.2.2.2.1) hzl⟩ rfl hnA hsize hstk (lv_room hrest) hdg hf)
end KL
