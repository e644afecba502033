/-! constructors: the addresses of what they make are not known before -/
section KC
variable {p : Program} {l : Launch} {e : Env} {R : Room} {s : State} {m : MethodId} {args : Array Value} {below : List Frame} {meth : Method} {c : Code} {H H0 : Heap} {locs : List Loc} {cells slots : Nat} {Q : State → Prop} {D : va_G} {cA cR : ClassId} {A : Nat → Prop} {bs cs rs : List va_W} {pc : Nat} {ls : Array Slot} {rest : List Value} {cc : ByteArray} {S : Type} {cs1 bs1 : S → List va_W}
def mQE (D : va_G) (A : Nat → Prop) {S : Type} (cs1 : S → List va_W) : Array Value → State → Outcome → State → Prop := fun _ st oc t => (∃ x : S, oc = .returned none ∧ va_P D vwCl (bw (cs1 x)) t.heap ∧ va_D A (bw (cs1 x))) ∧ va_F A st t
def mPE (D : va_G) (cA cR : ClassId) (av : List Value) (cs : List va_W) (sz : Nat) : Array Value → State → Prop := va_Pc av (fun U => U.heap.size = sz ∧ va_P D vwCl (bw cs) U.heap ∧ zk D cA cR U ∧ va_D (fun _ => True) (bw cs) ∧ va_AO RX8 U)
def ME (l : Launch) (y : MethodName) (ws : List Cond) (rm : Room) (D : va_G) (cA cR : ClassId) (av : List Value) (cs : List va_W) {S : Type} (cs1 : S → List va_W) (mc ms : Nat) : Prop := ∀ sz : Nat, Met l y ws rm (mPE D cA cR av cs sz) (mQE D (va_A (bw cs) sz) cs1) mc ms (va_A (bw cs) sz)
theorem mPE_blind {av : List Value} {sz : Nat} : FrameBlind (mPE D cA cR av cs sz) := fun a U g mk h => ⟨h.1, h.2.1, h.2.2.1, zk.same (s := U) (U := U.calling g mk a) rfl h.2.2.2.1, h.2.2.2.2.1, va_AO.moved (u := U) (U := U.calling g mk a) (Vm.Alike.refl U.vm) h.2.2.2.2.2⟩
theorem mPE_pre {av : List Value} (hP : va_P D vwCl (bw cs) H) (hD : va_D A (bw cs)) (hz : zk D cA cR s) (hO : va_AO RX8 s) : ∀ U : State, U.heap = H → s.WarmedH U.vm → mPE D cA cR av cs H.size av.toArray U := fun U hU hW => ⟨rfl, by rw [hU], by rw [hU]; exact hP, zk.warm hW hz, hD.weaken (fun _ _ _ _ => trivial), va_AO.moved hW.alike hO⟩
theorem ME.ofW {y : MethodName} {ws ws' : List Cond} {rm : Room} {av : List Value} {mc ms maxL : Nat} {ret : Option FieldType} (hy : plainName y.cls = true) (hw : ws = Cond.code y cc maxL ret :: ws') (hlen : (lg_sl av).length ≤ maxL)
    (body : ∀ (p : Program) (e : Env) (s : State) (m : MethodId) (args : Array Value) (below : List Frame) (meth : Method) (c : Code) (A : Nat → Prop) (ls : Array Slot) (Q : State → Prop) (H : Heap) (locs : List Loc), p.tables.exec = Jvm.exec → c.code = cc → meth.sig.returnType = ret → meth.locks = false → c.maxLocals = maxL → s.vm.findClass y.cls = some m.cls → meth.name = y.name → (∀ w ∈ ws, w.before args s = true) → zk D cA cR s → va_AO RX8 s → (∀ q : Nat, s.heap.size ≤ q → A q) → Q = MQ below (mQE D A cs1) args s mc ms A → ww A s.heap D cs H locs → lv_has ls maxL (lv_args 0 av) →
      W p l e rm s m args below meth c H locs 0 0 Q (F0 m 0 ls [])) : ME l y ws rm D cA cR av cs cs1 mc ms := by
  intro sz
  refine Met.ofW (cc := cc) (maxL := maxL) (ret := ret) hy hw ?_
  intro p e s m args below meth c s₁ B hml hv
  obtain ⟨rfl, hsz, hP, hK, hD0, hO⟩ := hv
  subst hsz
  have hD := hD0.self (sz := s.heap.size)
  have hl := lv_entry av (n := maxL) hlen
  rw [lg_entry_eq]
  have hA : ∀ q : Nat, s.heap.size ≤ q → va_A (bw cs) s.heap.size q := fun q h => Or.inr h
  exact body p e s m _ below meth c _ _ _ _ _ B.exec B.bytes B.returns B.notSynchronized hml (findClass_of_methodNamed B.named) ((name_of_methodNamed B.named B.method).1) (atoms_spec (ws := ws) B.pre) hK hO hA rfl ⟨hP, hD, va_S.rf⟩ hl
theorem k_vretE (x : S) (hx : p.tables.exec = Jvm.exec) (hb : c.code = cc) (hr : meth.sig.returnType = none) (hlk : meth.locks = false) (hw : ww A s.heap D (cs1 x) H locs) (hdg : decode cc pc = .ok (.return_, 1)) : W p l e R s m args below meth c H locs cells slots (MQ below (mQE D A cs1) args s cells slots A) (F0 m pc ls []) :=
  W.vret hx hb hr (fun t ht hW => ⟨⟨x, rfl, by rw [ht]; exact hw.1, hw.2.1⟩, hw.2.2.F ht⟩) hw.2.2.2.2 hdg hlk
theorem bw_snoc (bs : List va_W) (x : Nat × va_E) : bw (bs ++ [[x]]) = bw bs ++ [x] := by
  unfold bw
  rw [List.flatten_append]
  rfl
theorem k_new {own C : String} {T : u_T} {N ci index : Nat} {Ts : List Cond} {bs1 : List va_W} (hx : p.tables.exec = Jvm.exec) (hb : c.code = cc) (hts : ∀ w ∈ Ts, w.before args s = true) (hown : s.vm.findClass own = some m.cls) (hz : zk D cA cR s) (hw : ww A H0 D bs H locs) (hA : ∀ q, H0.size ≤ q → A q) (hin : ∀ w ∈ u_ws C T N, w ∈ Ts) (ty : Nat → FieldType) (hty : ∀ k, k < N → parseFieldDescriptor (T k).2.2.1 = some (ty k)) (hcl : Cond.classLink own index C ∈ Ts) (hinst : Cond.instantiable C N ∈ Ts) (hini : Cond.initialized C ∈ Ts) (hc : vwCl[ci]? = some (C, T, N)) {fs : List Value} (hfs : ∀ j, j < N → defaultValue (ty j) = vp_V fs j) (hcells : cells + 1 ≤ R.cells) (hslots : slots + N ≤ R.slots) (hdg : decode cc pc = .ok (.new index, 3))
    (kk : ∀ (q : Nat) (H1 : Heap), ww A H0 D (bs ++ [[(q, .inr (ci, fs))]]) H1 locs → W p l e R s m args below meth c H1 locs (cells + 1) (slots + N) Q (F0 m (pc + 3) ls (.ref q :: rest))) : W p l e R s m args below meth c H locs cells slots Q (F0 m pc ls rest) :=
  va_new hx hb hts hin ty hty hown (hts _ hcl) (hts _ hinst) (hts _ hini) hz.1 hw.1 hw.2.1 hw.2.2 hA hc hfs hcells hslots hdg (fun q H1 hP hD hS => kk q H1 ⟨by rw [bw_snoc]; exact hP, by rw [bw_snoc]; exact hD, hS⟩)
theorem k_newi {Ts : List Cond} (hx : p.tables.exec = Jvm.exec) (hb : c.code = cc) (hts : ∀ w ∈ Ts, w.before args s = true) (hz : zk D cA cR s) (hw : ww A H0 D bs H locs) (hA : ∀ q, H0.size ≤ q → A q) (harr : Cond.arrayClass .int ∈ Ts) {n : Int32} {N' : Nat} (hn : ¬ n < 0) (hN : n.toNatClampNeg = N') (hbytes : N' * componentBytes .int ≤ 536870912) (hcells : cells + 1 ≤ R.cells) (hslots : slots + N' ≤ R.slots) (hdg : decode cc pc = .ok (.newarray .int, 2))
    (kk : ∀ (q : Nat) (H1 : Heap), ww A H0 D (bs ++ [[(q, .inl (cA, N', .inl (fun _ => 0)))]]) H1 locs → W p l e R s m args below meth c H1 locs (cells + 1) (slots + N') Q (F0 m (pc + 2) ls (.ref q :: rest))) : W p l e R s m args below meth c H locs cells slots Q (F0 m pc ls (.int n :: rest)) := by
  refine va_newa (atype := .int) (ty := .int) (a0 := (N', .inl (fun _ => 0))) hx hb (hts _ harr) rfl hz.1 hw.1 hw.2.1 hw.2.2 hA (fun _ => rfl) hn hN hbytes hcells hslots hdg (fun q cA' H1 hK' hP hD hS => ?_)
  have h1 := (hz.1.2 0 (cA, .int) rfl).2
  have h2 := (hK'.2 2 (cA', .int) rfl).2
  have he : cA' = cA := Option.some.inj (h2.symm.trans h1)
  subst he
  exact kk q H1 ⟨by rw [bw_snoc]; exact hP, by rw [bw_snoc]; exact hD, hS⟩
theorem k_newq {own : String} {index : Nat} {Ts : List Cond} (hx : p.tables.exec = Jvm.exec) (hb : c.code = cc) (hts : ∀ w ∈ Ts, w.before args s = true) (hown : s.vm.findClass own = some m.cls) (hz : zk D cA cR s) (hO : va_AO RX8 s) (hw : ww A H0 D bs H locs) (hA : ∀ q, H0.size ≤ q → A q) (hcl : Cond.classLink own index RX8 ∈ Ts) {n : Int32} {N' : Nat} (hn : ¬ n < 0) (hN : n.toNatClampNeg = N') (hbytes : N' * 4 ≤ 536870912) (hcells : cells + 1 ≤ R.cells) (hslots : slots + N' ≤ R.slots) (hdg : decode cc pc = .ok (.anewarray index, 3))
    (kk : ∀ (q : Nat) (H1 : Heap), ww A H0 D (bs ++ [[(q, .inl (cR, N', .inr (.inr (.inr (.inr (fun _ => none))))))]]) H1 locs → W p l e R s m args below meth c H1 locs (cells + 1) (slots + N') Q (F0 m (pc + 3) ls (.ref q :: rest))) : W p l e R s m args below meth c H locs cells slots Q (F0 m pc ls (.int n :: rest)) := by
  refine va_newq hx hb hown (hts _ hcl) hO hz.1 hw.1 hw.2.1 hw.2.2 hA hn hN hbytes hcells hslots hdg (fun q cA' H1 hK' hP hD hS => ?_)
  obtain ⟨kA, comp, -, -, -, h1⟩ := (hz.1.2 1 (cR, .object RX8) rfl).2
  obtain ⟨kA', comp', -, -, -, h2⟩ := (hK'.2 2 (cA', .object RX8) rfl).2
  have he : cA' = cR := Option.some.inj (h2.symm.trans h1)
  subst he
  exact kk q H1 ⟨by rw [bw_snoc]; exact hP, by rw [bw_snoc]; exact hD, hS⟩
theorem k_putF {bs1 : List va_W} (hx : p.tables.exec = Jvm.exec) (hb : c.code = cc) {own ref C : String} {T : u_T} {N ci index : Nat} {Ts : List Cond} (hts : ∀ w ∈ Ts, w.before args s = true) (hown : s.vm.findClass own = some m.cls) (hz : zk D cA cR s) (hw : ww A H0 D bs H locs) (hin : ∀ w ∈ u_ws C T N, w ∈ Ts) (ty0 : Nat → FieldType) (hty : ∀ k, k < N → parseFieldDescriptor (T k).2.2.1 = some (ty0 k)) (hnm : ∀ a, a < N → ∀ b, b < N → a ≠ b → (T a).2.1 ≠ (T b).2.1) (i : Nat) {a : Nat} {fs : List Value} (hi : bs[i]? = some [(a, .inr (ci, fs))]) (hc : vwCl[ci]? = some (C, T, N)) (k : Nat) (hk : k < N) (hlink : (Cond.fieldLink own index ref (T k).2.1 (T k).2.2.1).before args s = true) (hsame : ∀ x, s.fieldFound? (T k).1 (T k).2.1 (T k).2.2.1 = some x → s.fieldFound? ref (T k).2.1 (T k).2.2.1 = some x) (hfin : (T k).2.2.2 = true) (hin2 : meth.name = "<init>") (hdecl : (T k).1 = own) {ty : FieldType} {v : Value} (hd : parseFieldDescriptor (T k).2.2.1 = some ty) (hn : narrow ty v = v) (hfit : fits ty v = true) (hl : k < fs.length)
    (hdg : decode cc pc = .ok (.putfield index, 3)) (hbs : bs.set i [(a, .inr (ci, fs.set k v))] = bs1) (kk : ∀ (H1 : Heap) (locs1 : List Loc), ww A H0 D bs1 H1 locs1 → W p l e R s m args below meth c H1 locs1 cells slots Q (F0 m (pc + 3) ls rest)) : W p l e R s m args below meth c H locs cells slots Q (F0 m pc ls (v :: .ref a :: rest)) := by
  obtain ⟨k0, h1, h2⟩ := bw_at bs i _ hi
  refine va_putF hx hb hts hin ty0 hty hnm hown hz.1 hw.1 hw.2.1 hw.2.2 k0 h1 hc k hk hlink hsame hfin hin2 hdecl hd hn hfit hl hdg (fun H1 locs1 hP hD hS => kk H1 locs1 ⟨?_, ?_, hS⟩)
  · rw [← hbs, ← h2]; exact hP
  · rw [← hbs, ← h2]; exact hD
/-- a state into the ring: its first cell stands at the head of its block -/
theorem k_astq {bs1 : List va_W} (hx : p.tables.exec = Jvm.exec) (hb : c.code = cc) (hz : zk D cA cR s) (hw : ww A H0 D bs H locs) (j jv : Nat) {a n v : Nat} {f : Nat → Option Nat} (hi : bs[j]? = some [(a, .inl (cR, n, .inr (.inr (.inr (.inr f)))))]) {vs : List Value} {bt : va_W} (hj : bs[jv]? = some ((v, .inr (8, vs)) :: bt)) {i : Int32} (hin : vp_in i n) (hdg : decode cc pc = .ok (.aastore, 1)) (hbs : bs.set j [(a, .inl (cR, n, .inr (.inr (.inr (.inr (va_up f i.toNatClampNeg (some v)))))))] = bs1)
    (kk : ∀ (H1 : Heap) (locs1 : List Loc), ww A H0 D bs1 H1 locs1 → W p l e R s m args below meth c H1 locs1 cells slots Q (F0 m (pc + 1) ls rest)) : W p l e R s m args below meth c H locs cells slots Q (F0 m pc ls (.ref v :: .int i :: .ref a :: rest)) := by
  obtain ⟨k0, h1, h2⟩ := bw_at bs j _ hi
  obtain ⟨kv, hv⟩ := List.getElem?_of_mem (List.mem_flatten.mpr ⟨_, List.mem_of_getElem? hj, List.mem_cons_self⟩)
  refine va_astq (r := (RX8, TX8, 9)) hx hb hz.1 hw.1 hw.2.1 hw.2.2 k0 1 kv 8 h1 rfl hv rfl hin hdg (fun H1 locs1 hP hD hS => kk H1 locs1 ⟨?_, ?_, hS⟩)
  · rw [← hbs, ← h2]; exact hP
  · rw [← hbs, ← h2]; exact hD
theorem k_callE {mc ms : Nat} {st0 st1 : List Value} {aa : Array Value} (hw : ww A H0 D bs H locs) (hA : ∀ q, H0.size ≤ q → A q) (isC isR isF : List Nat) (hC : isC.map (fun i => bs[i]?) = cs.map some) (hR : isR.map (fun i => bs[i]?) = rs.map some) (hn : va_nd (isR ++ isC) = true) (hF : ∀ x, isF.map (fun i => (rs ++ cs1 x)[i]?) = (bs1 x).map some) (hnF : va_nd isF = true)
    (hr : va_Run p l e R s m args below meth c H locs cells slots mc ms (F0 m pc ls st0) rest (mQE D (va_A (bw cs) H.size) cs1 aa) (va_A (bw cs) H.size))
    (hst1 : rest = st1) (kk : ∀ (x : S) (H1 : Heap) (locs1 : List Loc), ww A H0 D (bs1 x) H1 locs1 → W p l e R s m args below meth c H1 locs1 (cells + mc) (slots + ms) Q (F0 m (pc + 3) ls st1)) : W p l e R s m args below meth c H locs cells slots Q (F0 m pc ls st0) := by
  subst hst1
  intro T hT X
  obtain ⟨v, st₀, t, T', L, h0, X', hL, e1, e2, ⟨⟨x, hv, hP1, hD1⟩, hz, hk⟩, st⟩ := hr T hT X
  cases hv
  rw [h0] at hz hk
  have hF0 := k_free hw hA hC
  rw [← e1] at hP1
  obtain ⟨hP2, hD2⟩ := k_join hw hA hC hR hn (hF x) hnF (H1 := T'.heap) (fun q h1 h2 => by rw [e1]; exact hk q h1 h2) hP1 hD1
  obtain ⟨t2, a1, b1⟩ := kk x T'.heap (locs ++ L) ⟨hP2, hD2, ⟨Nat.le_trans hw.2.2.1 (by rw [e1]; exact hz), fun q h1 h2 => by rw [e1, hk q (Nat.lt_of_lt_of_le h1 hw.2.2.1) (fun z => h2 (hF0 q z))]; exact hw.2.2.2.1 q h1 h2, fun q hq => by
      rcases List.mem_append.mp hq with h | h
      · exact hw.2.2.2.2 q h
      · exact hF0 _ (hL q h)⟩⟩ T' rfl X'
  exact ⟨t2, st t2 a1, b1⟩
variable {y : MethodName} {ws ws' : List Cond} {rm : Room} {bytes : ByteArray} {maxL index nL mc ms b nA : Nat} {Ts : List Cond} {own host : String} {As st0 : List Value}
theorem k_runIE (S0 : CallFix p m c cc nL s args Ts own) (hz : zk D cA cR s) (hO : va_AO RX8 s) (hw : ww A H0 D bs H locs) (hA : ∀ q, H0.size ≤ q → A q) (hM : ME l y ws rm D cA cR (.ref b :: As) cs cs1 mc ms) (hT : GoodIn Ts ws) (hwc : ws = Cond.code y bytes maxL none :: ws') (hrc : rm.cells = mc) (hrs : rm.slots = ms) (hini : Cond.initialized y.cls ∈ Ts) (hl : Cond.methodLink own index y ∈ Ts) (hin : Cond.instanceMethod y ∈ Ts) (hy1 : y.name = "<init>")
    (hd : y.cls ≠ "java/lang/invoke/MethodHandle" ∧ y.cls ≠ "java/lang/invoke/VarHandle" ∧ (parseMethodDescriptor y.desc).map (fun d => d.parameters.length) = some nA) (hnA : As.length = nA) (hR : rm.frames + 1 ≤ R.frames ∧ 8 + (maxL + 11) + rm.locals ≤ R.locals) (hsize : ls.size = nL) (hstk : st0 = As.reverse ++ .ref b :: rest) (hrest : (rest.map fun v => v.category).sum ≤ 8) (hdg : decode cc pc = .ok (.invokespecial index, 3)) (hf : cells + mc ≤ R.cells ∧ slots + ms ≤ R.slots)
    (isC isR : List Nat) (hC : isC.map (fun i => bs[i]?) = cs.map some) (hRs : isR.map (fun i => bs[i]?) = rs.map some) (hn : va_nd (isR ++ isC) = true) : va_Run p l e R s m args below meth c H locs cells slots mc ms (F0 m pc ls st0) rest (mQE D (va_A (bw cs) H.size) cs1 (.ref b :: As).toArray) (va_A (bw cs) H.size) := by
  obtain ⟨hP1, hD1⟩ := k_cut hw hA isC isR hC hRs hn
  exact va_runI (As := As) (rest := rest) (n := nA) S0 (hM H.size) (cwI nA S0.2.2.2.2 hT hwc hrc hrs (S0.2.2.2.2 _ hini) (S0.2.2.2.2 _ hl) (S0.2.2.2.2 _ hin) hy1 hd hR) ⟨mPE_blind, mPE_pre hP1 hD1 hz hO⟩ rfl hnA hsize hstk (lv_room hrest) hdg hf
theorem k_runINE (S0 : CallFix p m c cc nL s args Ts own) (hz : zk D cA cR s) (hO : va_AO RX8 s) (hw : ww A H0 D bs H locs) (hA : ∀ q, H0.size ≤ q → A q) (hM : ME l y ws rm D cA cR (.ref b :: As) cs cs1 mc ms) (hT : GoodIn Ts ws) (hwc : ws = Cond.code y bytes maxL none :: ws') (hrc : rm.cells = mc) (hrs : rm.slots = ms) (hini : Cond.initialized y.cls ∈ Ts) (hl : Cond.methodLinkNest own index y host ∈ nW) (hin : Cond.instanceMethod y ∈ Ts) (hy1 : y.name = "<init>")
    (hd : y.cls ≠ "java/lang/invoke/MethodHandle" ∧ y.cls ≠ "java/lang/invoke/VarHandle" ∧ (parseMethodDescriptor y.desc).map (fun d => d.parameters.length) = some nA) (hnA : As.length = nA) (hR : rm.frames + 1 ≤ R.frames ∧ 8 + (maxL + 11) + rm.locals ≤ R.locals) (hsize : ls.size = nL) (hstk : st0 = As.reverse ++ .ref b :: rest) (hrest : (rest.map fun v => v.category).sum ≤ 8) (hdg : decode cc pc = .ok (.invokespecial index, 3)) (hf : cells + mc ≤ R.cells ∧ slots + ms ≤ R.slots)
    (isC isR : List Nat) (hC : isC.map (fun i => bs[i]?) = cs.map some) (hRs : isR.map (fun i => bs[i]?) = rs.map some) (hn : va_nd (isR ++ isC) = true) : va_Run p l e R s m args below meth c H locs cells slots mc ms (F0 m pc ls st0) rest (mQE D (va_A (bw cs) H.size) cs1 (.ref b :: As).toArray) (va_A (bw cs) H.size) := by
  obtain ⟨hP1, hD1⟩ := k_cut hw hA isC isR hC hRs hn
  exact va_runIN (As := As) (rest := rest) (n := nA) S0 (hM H.size) ⟨va_cnB nA S0.2.2.2.2 hT hwc hrc hrs (hz.2 _ hl) (S0.2.2.2.2 _ hini) hd hR, hy1, S0.2.2.2.2 _ hin⟩ ⟨mPE_blind, mPE_pre hP1 hD1 hz hO⟩ rfl hnA hsize hstk (lv_room hrest) hdg hf
theorem rg_up (a : A3) : va_up (va_up (va_up (va_up (fun _ => none) 0 (some a.2.2.1.1)) 1 (some a.2.2.2.1.1)) 2 (some a.2.2.2.2.1.1)) 3 (some a.2.2.2.2.2.1) = rg a := by
  funext k
  match k with
  | 0 => rfl
  | 1 => rfl
  | 2 => rfl
  | 3 => rfl
  | k + 4 => simp [va_up, rg]
end KC
