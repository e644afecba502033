/-! worlds in blocks: a world is a list of blocks of cells -/
section KB
variable {D : va_G} {cl : List vw_C} {A : Nat → Prop} {H H1 : Heap} {bs bs' : List va_W}
def bw (bs : List va_W) : va_W := bs.flatten
theorem vq_P {ws : va_W} : va_P D cl ws H ↔ ∀ q ∈ ws, va_at D cl q H := by
  constructor
  · intro h q hq
    obtain ⟨k, hk⟩ := List.getElem?_of_mem hq
    exact h k q hk
  · intro h k q hk
    exact h q (List.mem_of_getElem? hk)
theorem vq_D {ws : va_W} : va_D A ws ↔ ws.Pairwise (fun p q => p.1 ≠ q.1) ∧ ∀ q ∈ ws, A q.1 := by
  constructor
  · intro h
    refine ⟨?_, fun q hq => ?_⟩
    · rw [List.pairwise_iff_getElem]
      intro i j hi hj hij he
      have := h.1 i j _ _ (List.getElem?_eq_getElem hi) (List.getElem?_eq_getElem hj) he
      omega
    · obtain ⟨k, hk⟩ := List.getElem?_of_mem hq
      exact h.2 k q hk
  · intro h
    refine ⟨fun i j p q hi hj he => ?_, fun k q hk => h.2 q (List.mem_of_getElem? hk)⟩
    obtain ⟨li, ei⟩ := List.getElem?_eq_some_iff.mp hi
    obtain ⟨lj, ej⟩ := List.getElem?_eq_some_iff.mp hj
    have hp := List.pairwise_iff_getElem.mp h.1
    rcases Nat.lt_trichotomy i j with q1 | q1 | q1
    · exact absurd (by rw [ei, ej]; exact he) (hp i j li lj q1)
    · exact q1
    · exact absurd (by rw [ei, ej]; exact he.symm) (hp j i lj li q1)
theorem vq_pick {is : List Nat} (hs : is.map (fun i => bs[i]?) = bs'.map some) (k : Nat) (b : va_W) (hb : bs'[k]? = some b) : ∃ i, is[k]? = some i ∧ bs[i]? = some b := by
  have h1 : (is.map (fun i => bs[i]?))[k]? = some (some b) := by rw [hs, List.getElem?_map, hb]; rfl
  rw [List.getElem?_map] at h1
  cases hi : is[k]? with
  | none => rw [hi] at h1; cases h1
  | some i => rw [hi] at h1; exact ⟨i, rfl, Option.some.inj h1⟩
theorem vq_subP (h : va_P D cl (bw bs) H) (is : List Nat) (hs : is.map (fun i => bs[i]?) = bs'.map some) : va_P D cl (bw bs') H := by
  rw [vq_P] at h ⊢
  intro q hq
  obtain ⟨b, hb, hqb⟩ := List.mem_flatten.mp hq
  obtain ⟨k, hk⟩ := List.getElem?_of_mem hb
  obtain ⟨i, -, hi⟩ := vq_pick hs k b hk
  exact h q (List.mem_flatten.mpr ⟨b, List.mem_of_getElem? hi, hqb⟩)
theorem vq_subD (h : va_D A (bw bs)) (is : List Nat) (hn : va_nd is = true) (hs : is.map (fun i => bs[i]?) = bs'.map some) : va_D A (bw bs') := by
  rw [vq_D] at h ⊢
  obtain ⟨h1, h2⟩ := h
  have hf := List.pairwise_flatten.mp h1
  refine ⟨List.pairwise_flatten.mpr ⟨fun b hb => ?_, ?_⟩, fun q hq => ?_⟩
  · obtain ⟨k, hk⟩ := List.getElem?_of_mem hb
    obtain ⟨i, -, hi⟩ := vq_pick hs k b hk
    exact hf.1 b (List.mem_of_getElem? hi)
  · rw [List.pairwise_iff_getElem]
    intro i j li lj hij x hx y hy
    obtain ⟨i', ei, hi⟩ := vq_pick hs i _ (List.getElem?_eq_getElem li)
    obtain ⟨j', ej, hj⟩ := vq_pick hs j _ (List.getElem?_eq_getElem lj)
    obtain ⟨li', ei'⟩ := List.getElem?_eq_some_iff.mp hi
    obtain ⟨lj', ej'⟩ := List.getElem?_eq_some_iff.mp hj
    have hp := List.pairwise_iff_getElem.mp hf.2
    rcases Nat.lt_trichotomy i' j' with q1 | q1 | q1
    · exact hp i' j' li' lj' q1 x (by rw [ei']; exact hx) y (by rw [ej']; exact hy)
    · exact absurd (va_nd_inj is hn i j i' ei (by rw [q1]; exact ej)) (by omega)
    · exact (hp j' i' lj' li' q1 y (by rw [ej']; exact hy) x (by rw [ei']; exact hx)).symm
  · obtain ⟨b, hb, hqb⟩ := List.mem_flatten.mp hq
    obtain ⟨k, hk⟩ := List.getElem?_of_mem hb
    obtain ⟨i, -, hi⟩ := vq_pick hs k b hk
    exact h2 q (List.mem_flatten.mpr ⟨b, List.mem_of_getElem? hi, hqb⟩)
theorem bw_at : ∀ (bs : List va_W) (i : Nat) (x : Nat × va_E), bs[i]? = some [x] → ∃ k, (bw bs)[k]? = some x ∧ ∀ y, (bw bs).set k y = bw (bs.set i [y])
  | [], i, x, h => by simp at h
  | b :: bs, 0, x, h => by
    have hb : b = [x] := Option.some.inj h
    subst hb
    exact ⟨0, rfl, fun y => rfl⟩
  | b :: bs, i + 1, x, h => by
    obtain ⟨k, h1, h2⟩ := bw_at bs i x h
    refine ⟨b.length + k, ?_, fun y => ?_⟩
    · show (b ++ bw bs)[b.length + k]? = _
      rw [List.getElem?_append_right (Nat.le_add_right _ _), Nat.add_sub_cancel_left]
      exact h1
    · show (b ++ bw bs).set (b.length + k) y = b ++ bw (bs.set i [y])
      rw [List.set_append_right _ _ (Nat.le_add_right _ _), Nat.add_sub_cancel_left, h2]
/-- the moving part of a walk: the cells, that they are apart, what was written -/
def ww (A : Nat → Prop) (H0 : Heap) (D : va_G) (bs : List va_W) (H : Heap) (locs : List Loc) : Prop := va_P D vwCl (bw bs) H ∧ va_D A (bw bs) ∧ va_S A H0 H locs
theorem ww.sub {H0 : Heap} {locs : List Loc} (h : ww A H0 D bs H locs) (is : List Nat) (hn : va_nd is = true) (hs : is.map (fun i => bs[i]?) = bs'.map some) : ww A H0 D bs' H locs := ⟨vq_subP h.1 is hs, vq_subD h.2.1 is hn hs, h.2.2⟩
theorem ww.cell {H0 : Heap} {locs : List Loc} (h : ww A H0 D bs H locs) {i : Nat} {x : Nat × va_E} (hi : bs[i]? = some [x]) : va_P D vwCl [x] H := by
  rw [vq_P]
  intro q hq
  exact vq_P.mp h.1 q (List.mem_flatten.mpr ⟨_, List.mem_of_getElem? hi, hq⟩)
end KB
/-- the words of the nest -/
def nW : List Cond := [.fieldLinkNest "OccupancyMonitor$PlanParser" 40 "OccupancyMonitor$Bytes" "length" "I" "OccupancyMonitor", .fieldLinkNest "OccupancyMonitor$Plan" 47 "OccupancyMonitor$Bytes" "length" "I" "OccupancyMonitor", .fieldLinkNest "OccupancyMonitor" 114 "OccupancyMonitor$Bytes" "length" "I" "OccupancyMonitor", .fieldLinkNest "OccupancyMonitor" 144 "OccupancyMonitor$Plan" "table" "LOccupancyMonitor$Table;" "OccupancyMonitor", .fieldLinkNest "OccupancyMonitor$PlanParser" 50 "OccupancyMonitor$Plan" "count" "I" "OccupancyMonitor", .fieldLinkNest "OccupancyMonitor" 143 "OccupancyMonitor$Plan" "count" "I" "OccupancyMonitor", .fieldLinkNest "OccupancyMonitor" 16 "OccupancyMonitor$PlanParser" "text" "LOccupancyMonitor$Bytes;" "OccupancyMonitor", .fieldLinkNest "OccupancyMonitor" 134 "OccupancyMonitor$PlanParser" "draft" "LOccupancyMonitor$Plan;" "OccupancyMonitor", .fieldLinkNest "OccupancyMonitor" 230 "OccupancyMonitor$Signals" "table" "LOccupancyMonitor$Table;" "OccupancyMonitor", .fieldLinkNest "OccupancyMonitor" 79 "OccupancyMonitor$Signals" "count" "I" "OccupancyMonitor", .fieldLinkNest "OccupancyMonitor" 182 "OccupancyMonitor$Detectors" "table" "LOccupancyMonitor$Table;" "OccupancyMonitor", .fieldLinkNest "OccupancyMonitor$HopChains" 21 "OccupancyMonitor$EventLog" "count" "I" "OccupancyMonitor", .fieldLinkNest "OccupancyMonitor" 190 "OccupancyMonitor$EventLog" "count" "I" "OccupancyMonitor", .fieldLinkNest "OccupancyMonitor" 66 "OccupancyMonitor$State" "signals" "LOccupancyMonitor$Signals;" "OccupancyMonitor", .fieldLinkNest "OccupancyMonitor" 130 "OccupancyMonitor$State" "plan" "LOccupancyMonitor$Plan;" "OccupancyMonitor", .fieldLinkNest "OccupancyMonitor" 96 "OccupancyMonitor$State" "detectors" "LOccupancyMonitor$Detectors;" "OccupancyMonitor", .fieldLinkNest "OccupancyMonitor" 186 "OccupancyMonitor$State" "log" "LOccupancyMonitor$EventLog;" "OccupancyMonitor", .fieldLinkNest "OccupancyMonitor" 173 "OccupancyMonitor$State" "tick" "I" "OccupancyMonitor", .fieldLinkNest "OccupancyMonitor" 93 "OccupancyMonitor$State" "floor" "I" "OccupancyMonitor", .fieldLinkNest "OccupancyMonitor" 90 "OccupancyMonitor$State" "threshold" "I" "OccupancyMonitor", .fieldLinkNest "OccupancyMonitor" 108 "OccupancyMonitor$State" "gap" "I" "OccupancyMonitor", .fieldLinkNest "OccupancyMonitor" 111 "OccupancyMonitor$State" "tolerance" "I" "OccupancyMonitor", .fieldLinkNest "OccupancyMonitor" 218 "OccupancyMonitor$History" "count" "I" "OccupancyMonitor", .methodLinkNest "OccupancyMonitor" 9 ⟨"OccupancyMonitor$PlanParser", "<init>", "()V"⟩ "OccupancyMonitor", .methodLinkNest "OccupancyMonitor$PlanParser" 22 ⟨"OccupancyMonitor$Plan", "<init>", "()V"⟩ "OccupancyMonitor", .methodLinkNest "OccupancyMonitor" 31 ⟨"OccupancyMonitor$State", "<init>", "()V"⟩ "OccupancyMonitor", .methodLinkNest "OccupancyMonitor$State" 11 ⟨"OccupancyMonitor$Signals", "<init>", "()V"⟩ "OccupancyMonitor", .methodLinkNest "OccupancyMonitor$State" 20 ⟨"OccupancyMonitor$Plan", "<init>", "()V"⟩ "OccupancyMonitor", .methodLinkNest "OccupancyMonitor$History" 17 ⟨"OccupancyMonitor$State", "<init>", "()V"⟩ "OccupancyMonitor", .methodLinkNest "OccupancyMonitor" 45 ⟨"OccupancyMonitor$HopChains", "<init>", "()V"⟩ "OccupancyMonitor", .methodLinkNest "OccupancyMonitor$Bytes" 25 ⟨"OccupancyMonitor", "within", "(II)Z"⟩ "OccupancyMonitor", .methodLinkNest "OccupancyMonitor$History" 39 ⟨"OccupancyMonitor", "within", "(II)Z"⟩ "OccupancyMonitor", .methodLinkNest "OccupancyMonitor$EventLog" 35 ⟨"OccupancyMonitor", "within", "(II)Z"⟩ "OccupancyMonitor", .methodLinkNest "OccupancyMonitor$HopChains" 44 ⟨"OccupancyMonitor", "within", "(II)Z"⟩ "OccupancyMonitor", .methodLinkNest "OccupancyMonitor$Table" 58 ⟨"OccupancyMonitor", "mix", "(JI)J"⟩ "OccupancyMonitor", .methodLinkNest "OccupancyMonitor$Detectors" 53 ⟨"OccupancyMonitor", "mix", "(JI)J"⟩ "OccupancyMonitor", .methodLinkNest "OccupancyMonitor$Table" 41 ⟨"OccupancyMonitor", "within", "(II)Z"⟩ "OccupancyMonitor", .methodLinkNest "OccupancyMonitor$Signals" 42 ⟨"OccupancyMonitor", "within", "(II)Z"⟩ "OccupancyMonitor"]
theorem nW_tab : ∀ w ∈ nW, w.onTables = true := by decide +kernel
theorem nW_warm {s U : State} (hW : s.WarmedH U.vm) (h : ∀ w ∈ nW, va_Nw w s) : ∀ w ∈ nW, va_Nw w U := by
  intro w hw
  have hz := h w hw
  simp only [nW, List.mem_cons, List.not_mem_nil, or_false] at hw
  rcases hw with rfl | rfl | rfl | rfl | rfl | rfl | rfl | rfl | rfl | rfl | rfl | rfl | rfl | rfl | rfl | rfl | rfl | rfl | rfl | rfl | rfl | rfl | rfl | rfl | rfl | rfl | rfl | rfl | rfl | rfl | rfl | rfl | rfl | rfl | rfl | rfl | rfl | rfl <;> first | exact va_Nw.warmF hW hz | exact va_Nw.warmM hW hz
/-- what is fixed in a walk: classes, rows of ints, rows of states, the nest's words -/
def zk (D : va_G) (cA cR : ClassId) (U : State) : Prop := va_K D vwCl [(cA, .int), (cR, .object RX8)] U ∧ ∀ w ∈ nW, va_Nw w U
theorem zk.warm {D : va_G} {cA cR : ClassId} {s U : State} (hW : s.WarmedH U.vm) (h : zk D cA cR s) : zk D cA cR U := ⟨va_K.moved hW.alike h.1, nW_warm hW h.2⟩
theorem zk.same {D : va_G} {cA cR : ClassId} {s U : State} (hv : s.vm = U.vm) (h : zk D cA cR s) : zk D cA cR U := ⟨va_K.moved (by rw [← hv]; exact Vm.Alike.refl s.vm) h.1, fun w hw => va_Nw.same (nW_tab w hw) hv (h.2 w hw)⟩
section KM
variable {p : Program} {l : Launch} {e : Env} {R : Room} {s : State} {m : MethodId} {args : Array Value} {below : List Frame} {meth : Method} {c : Code} {H H0 : Heap} {locs : List Loc} {cells slots : Nat} {Q : State → Prop} {D : va_G} {cA cR : ClassId} {A : Nat → Prop} {bs bs1 cs cs1 rs : List va_W} {pc : Nat} {ls : Array Slot} {rest : List Value} {cc : ByteArray}
/-- what a method leaves: its answer, its cells, nothing else changed -/
def mQ (D : va_G) (A : Nat → Prop) (o : Option Value) (cs1 : List va_W) : Array Value → State → Outcome → State → Prop := fun _ st oc t => (oc = .returned o ∧ va_P D vwCl (bw cs1) t.heap ∧ va_D A (bw cs1)) ∧ va_F A st t
def mP (D : va_G) (cA cR : ClassId) (av : List Value) (cs : List va_W) (sz : Nat) : Array Value → State → Prop := va_Pc av (fun U => U.heap.size = sz ∧ va_P D vwCl (bw cs) U.heap ∧ zk D cA cR U ∧ va_D (fun _ => True) (bw cs))
/-- a contract: from the blocks cs with these arguments the method answers o and leaves the blocks cs1; mc cells of ms slots are new -/
def MI (l : Launch) (y : MethodName) (ws : List Cond) (rm : Room) (D : va_G) (cA cR : ClassId) (av : List Value) (cs : List va_W) (o : Option Value) (cs1 : List va_W) (mc ms : Nat) : Prop := ∀ sz : Nat, Met l y ws rm (mP D cA cR av cs sz) (mQ D (va_A (bw cs) sz) o cs1) mc ms (va_A (bw cs) sz)
theorem mP_blind {av : List Value} {sz : Nat} : FrameBlind (mP D cA cR av cs sz) := fun a U g mk h => ⟨h.1, h.2.1, h.2.2.1, zk.same (s := U) (U := U.calling g mk a) rfl h.2.2.2.1, h.2.2.2.2⟩
theorem mP_pre {av : List Value} (hP : va_P D vwCl (bw cs) H) (hD : va_D A (bw cs)) (hz : zk D cA cR s) : ∀ U : State, U.heap = H → s.WarmedH U.vm → mP D cA cR av cs H.size av.toArray U := fun U hU hW => ⟨rfl, by rw [hU], by rw [hU]; exact hP, zk.warm hW hz, hD.weaken (fun _ _ _ _ => trivial)⟩
theorem MI.ofW {y : MethodName} {ws ws' : List Cond} {rm : Room} {av : List Value} {o : Option Value} {mc ms maxL : Nat} {ret : Option FieldType} (hy : plainName y.cls = true) (hw : ws = Cond.code y cc maxL ret :: ws') (hlen : (lg_sl av).length ≤ maxL)
    (body : ∀ (p : Program) (e : Env) (s : State) (m : MethodId) (args : Array Value) (below : List Frame) (meth : Method) (c : Code) (A : Nat → Prop) (ls : Array Slot) (Q : State → Prop) (H : Heap) (locs : List Loc), p.tables.exec = Jvm.exec → c.code = cc → meth.sig.returnType = ret → meth.locks = false → c.maxLocals = maxL → s.vm.findClass y.cls = some m.cls → meth.name = y.name → (∀ w ∈ ws, w.before args s = true) → zk D cA cR s → (∀ q : Nat, s.heap.size ≤ q → A q) → Q = MQ below (mQ D A o cs1) args s mc ms A → ww A s.heap D cs H locs → lv_has ls maxL (lv_args 0 av) →
      W p l e rm s m args below meth c H locs 0 0 Q (F0 m 0 ls [])) : MI l y ws rm D cA cR av cs o cs1 mc ms := by
  intro sz
  refine Met.ofW (cc := cc) (maxL := maxL) (ret := ret) hy hw ?_
  intro p e s m args below meth c s₁ B hml hv
  obtain ⟨rfl, hsz, hP, hK, hD0⟩ := hv
  subst hsz
  have hD := hD0.self (sz := s.heap.size)
  have hl := lv_entry av (n := maxL) hlen
  rw [lg_entry_eq]
  have hA : ∀ q : Nat, s.heap.size ≤ q → va_A (bw cs) s.heap.size q := fun q h => Or.inr h
  exact body p e s m _ below meth c _ _ _ _ _ B.exec B.bytes B.returns B.notSynchronized hml (findClass_of_methodNamed B.named) ((name_of_methodNamed B.named B.method).1) (atoms_spec (ws := ws) B.pre) hK hA rfl ⟨hP, hD, va_S.rf⟩ hl
theorem k_iret (hx : p.tables.exec = Jvm.exec) (hb : c.code = cc) (hr : meth.sig.returnType = some .int) (hlk : meth.locks = false) {v : Int32} (hw : ww A s.heap D bs H locs) (hdg : decode cc pc = .ok (.ireturn, 1)) : W p l e R s m args below meth c H locs cells slots (MQ below (mQ D A (some (.int v)) bs) args s cells slots A) (F0 m pc ls [.int v]) :=
  W.iret hx hb hr (fun t ht hW => ⟨⟨rfl, by rw [ht]; exact hw.1, hw.2.1⟩, hw.2.2.F ht⟩) hw.2.2.2.2 hdg hlk
theorem k_zret {ty : FieldType} (hx : p.tables.exec = Jvm.exec) (hb : c.code = cc) (hr : meth.sig.returnType = some ty) (hlk : meth.locks = false) {v : Int32} (hn : narrow ty (.int v) = .int v) (hw : ww A s.heap D bs H locs) (hdg : decode cc pc = .ok (.ireturn, 1)) : W p l e R s m args below meth c H locs cells slots (MQ below (mQ D A (some (.int v)) bs) args s cells slots A) (F0 m pc ls [.int v]) :=
  W.zret hx hb hr hn (fun t ht hW => ⟨⟨rfl, by rw [ht]; exact hw.1, hw.2.1⟩, hw.2.2.F ht⟩) hw.2.2.2.2 hdg hlk
theorem k_lret (hx : p.tables.exec = Jvm.exec) (hb : c.code = cc) (hr : meth.sig.returnType = some .long) (hlk : meth.locks = false) {v : Int64} (hw : ww A s.heap D bs H locs) (hdg : decode cc pc = .ok (.lreturn, 1)) : W p l e R s m args below meth c H locs cells slots (MQ below (mQ D A (some (.long v)) bs) args s cells slots A) (F0 m pc ls [.long v]) :=
  W.lret hx hb hr (fun t ht hW => ⟨⟨rfl, by rw [ht]; exact hw.1, hw.2.1⟩, hw.2.2.F ht⟩) hw.2.2.2.2 hdg hlk
theorem k_dret (hx : p.tables.exec = Jvm.exec) (hb : c.code = cc) (hr : meth.sig.returnType = some .double) (hlk : meth.locks = false) {v : UInt64} (hw : ww A s.heap D bs H locs) (hdg : decode cc pc = .ok (.dreturn, 1)) : W p l e R s m args below meth c H locs cells slots (MQ below (mQ D A (some (.double v)) bs) args s cells slots A) (F0 m pc ls [.double v]) :=
  W.dret hx hb hr (fun t ht hW => ⟨⟨rfl, by rw [ht]; exact hw.1, hw.2.1⟩, hw.2.2.F ht⟩) hw.2.2.2.2 hdg hlk
theorem k_vret (hx : p.tables.exec = Jvm.exec) (hb : c.code = cc) (hr : meth.sig.returnType = none) (hlk : meth.locks = false) (hw : ww A s.heap D bs H locs) (hdg : decode cc pc = .ok (.return_, 1)) : W p l e R s m args below meth c H locs cells slots (MQ below (mQ D A none bs) args s cells slots A) (F0 m pc ls []) :=
  W.vret hx hb hr (fun t ht hW => ⟨⟨rfl, by rw [ht]; exact hw.1, hw.2.1⟩, hw.2.2.F ht⟩) hw.2.2.2.2 hdg hlk
theorem k_aret {rt : FieldType} (hx : p.tables.exec = Jvm.exec) (hb : c.code = cc) (hr : meth.sig.returnType = some rt) (hlk : meth.locks = false) (hrt : (∃ n, rt = .object n) ∨ ∃ t, rt = .array t) {v : Value} (hv : v = .null ∨ ∃ a, v = .ref a) (hw : ww A s.heap D bs H locs) (hdg : decode cc pc = .ok (.areturn, 1)) : W p l e R s m args below meth c H locs cells slots (MQ below (mQ D A (some v) bs) args s cells slots A) (F0 m pc ls [v]) :=
  W.aret hx hb hr hrt hv (fun t ht hW => ⟨⟨rfl, by rw [ht]; exact hw.1, hw.2.1⟩, hw.2.2.F ht⟩) hw.2.2.2.2 hdg hlk
theorem k_get (hx : p.tables.exec = Jvm.exec) (hb : c.code = cc) {own ref C : String} {T : u_T} {N ci index : Nat} {Ts : List Cond} (hts : ∀ w ∈ Ts, w.before args s = true) (hown : s.vm.findClass own = some m.cls) (hz : zk D cA cR s) (hw : ww A H0 D bs H locs) (hin : ∀ w ∈ u_ws C T N, w ∈ Ts) (i : Nat) {a : Nat} {fs : List Value} (hi : bs[i]? = some [(a, .inr (ci, fs))]) (hc : vwCl[ci]? = some (C, T, N)) (k : Nat) (hk : k < N) (hlink : (Cond.fieldLink own index ref (T k).2.1 (T k).2.2.1).before args s = true) (hsame : ∀ x, s.fieldFound? (T k).1 (T k).2.1 (T k).2.2.1 = some x → s.fieldFound? ref (T k).2.1 (T k).2.2.1 = some x) {v : Value} (hv : fs[k]? = some v) (hdg : decode cc pc = .ok (.getfield index, 3))
    (kk : W p l e R s m args below meth c H locs cells slots Q (F0 m (pc + 3) ls (v :: rest))) : W p l e R s m args below meth c H locs cells slots Q (F0 m pc ls (.ref a :: rest)) :=
  va_get hx hb hts hin hown hz.1 (hw.cell hi) 0 rfl hc k hk hlink hsame hv hdg kk
theorem k_getN (hx : p.tables.exec = Jvm.exec) (hb : c.code = cc) {own ref C host : String} {T : u_T} {N ci index : Nat} {Ts : List Cond} (hts : ∀ w ∈ Ts, w.before args s = true) (hown : s.vm.findClass own = some m.cls) (hz : zk D cA cR s) (hw : ww A H0 D bs H locs) (hin : ∀ w ∈ u_ws C T N, w ∈ Ts) (i : Nat) {a : Nat} {fs : List Value} (hi : bs[i]? = some [(a, .inr (ci, fs))]) (hc : vwCl[ci]? = some (C, T, N)) (k : Nat) (hk : k < N) (hlink : Cond.fieldLinkNest own index ref (T k).2.1 (T k).2.2.1 host ∈ nW) (hsame : ∀ x, s.fieldFound? (T k).1 (T k).2.1 (T k).2.2.1 = some x → s.fieldFound? ref (T k).2.1 (T k).2.2.1 = some x) {v : Value} (hv : fs[k]? = some v) (hdg : decode cc pc = .ok (.getfield index, 3))
    (kk : W p l e R s m args below meth c H locs cells slots Q (F0 m (pc + 3) ls (v :: rest))) : W p l e R s m args below meth c H locs cells slots Q (F0 m pc ls (.ref a :: rest)) :=
  va_getN hx hb hts hin hown hz.1 (hw.cell hi) 0 rfl hc k hk (va_Nw.use rfl (hz.2 _ hlink)) hsame hv hdg kk
theorem k_put (hx : p.tables.exec = Jvm.exec) (hb : c.code = cc) {own ref C : String} {T : u_T} {N ci index : Nat} {Ts : List Cond} (hts : ∀ w ∈ Ts, w.before args s = true) (hown : s.vm.findClass own = some m.cls) (hz : zk D cA cR s) (hw : ww A H0 D bs H locs) (hin : ∀ w ∈ u_ws C T N, w ∈ Ts) (ty0 : Nat → FieldType) (hty : ∀ k, k < N → parseFieldDescriptor (T k).2.2.1 = some (ty0 k)) (hnm : ∀ a, a < N → ∀ b, b < N → a ≠ b → (T a).2.1 ≠ (T b).2.1) (i : Nat) {a : Nat} {fs : List Value} (hi : bs[i]? = some [(a, .inr (ci, fs))]) (hc : vwCl[ci]? = some (C, T, N)) (k : Nat) (hk : k < N) (hlink : (Cond.fieldLink own index ref (T k).2.1 (T k).2.2.1).before args s = true) (hsame : ∀ x, s.fieldFound? (T k).1 (T k).2.1 (T k).2.2.1 = some x → s.fieldFound? ref (T k).2.1 (T k).2.2.1 = some x) (hfin : (T k).2.2.2 = false) {ty : FieldType} {v : Value} (hd : parseFieldDescriptor (T k).2.2.1 = some ty) (hn : narrow ty v = v) (hfit : fits ty v = true) (hl : k < fs.length)
    (hdg : decode cc pc = .ok (.putfield index, 3)) (hbs : bs.set i [(a, .inr (ci, fs.set k v))] = bs1) (kk : ∀ (H1 : Heap) (locs1 : List Loc), ww A H0 D bs1 H1 locs1 → W p l e R s m args below meth c H1 locs1 cells slots Q (F0 m (pc + 3) ls rest)) : W p l e R s m args below meth c H locs cells slots Q (F0 m pc ls (v :: .ref a :: rest)) := by
  obtain ⟨k0, h1, h2⟩ := bw_at bs i _ hi
  refine va_put hx hb hts hin ty0 hty hnm hown hz.1 hw.1 hw.2.1 hw.2.2 k0 h1 hc k hk hlink hsame hfin hd hn hfit hl hdg (fun H1 locs1 hP hD hS => kk H1 locs1 ⟨?_, ?_, hS⟩)
  · rw [← hbs, ← h2]; exact hP
  · rw [← hbs, ← h2]; exact hD
theorem k_putN (hx : p.tables.exec = Jvm.exec) (hb : c.code = cc) {own ref C host : String} {T : u_T} {N ci index : Nat} {Ts : List Cond} (hts : ∀ w ∈ Ts, w.before args s = true) (hown : s.vm.findClass own = some m.cls) (hz : zk D cA cR s) (hw : ww A H0 D bs H locs) (hin : ∀ w ∈ u_ws C T N, w ∈ Ts) (ty0 : Nat → FieldType) (hty : ∀ k, k < N → parseFieldDescriptor (T k).2.2.1 = some (ty0 k)) (hnm : ∀ a, a < N → ∀ b, b < N → a ≠ b → (T a).2.1 ≠ (T b).2.1) (i : Nat) {a : Nat} {fs : List Value} (hi : bs[i]? = some [(a, .inr (ci, fs))]) (hc : vwCl[ci]? = some (C, T, N)) (k : Nat) (hk : k < N) (hlink : Cond.fieldLinkNest own index ref (T k).2.1 (T k).2.2.1 host ∈ nW) (hsame : ∀ x, s.fieldFound? (T k).1 (T k).2.1 (T k).2.2.1 = some x → s.fieldFound? ref (T k).2.1 (T k).2.2.1 = some x) (hfin : (T k).2.2.2 = false) {ty : FieldType} {v : Value} (hd : parseFieldDescriptor (T k).2.2.1 = some ty) (hn : narrow ty v = v) (hfit : fits ty v = true) (hl : k < fs.length)
    (hdg : decode cc pc = .ok (.putfield index, 3)) (hbs : bs.set i [(a, .inr (ci, fs.set k v))] = bs1) (kk : ∀ (H1 : Heap) (locs1 : List Loc), ww A H0 D bs1 H1 locs1 → W p l e R s m args below meth c H1 locs1 cells slots Q (F0 m (pc + 3) ls rest)) : W p l e R s m args below meth c H locs cells slots Q (F0 m pc ls (v :: .ref a :: rest)) := by
  obtain ⟨k0, h1, h2⟩ := bw_at bs i _ hi
  refine va_putN hx hb hts hin ty0 hty hnm hown hz.1 hw.1 hw.2.1 hw.2.2 k0 h1 hc k hk (va_Nw.use rfl (hz.2 _ hlink)) hsame hfin hd hn hfit hl hdg (fun H1 locs1 hP hD hS => kk H1 locs1 ⟨?_, ?_, hS⟩)
  · rw [← hbs, ← h2]; exact hP
  · rw [← hbs, ← h2]; exact hD
theorem k_iald (hx : p.tables.exec = Jvm.exec) (hb : c.code = cc) (hz : zk D cA cR s) (hw : ww A H0 D bs H locs) (j : Nat) {a n : Nat} {f : Nat → Int32} (hi : bs[j]? = some [(a, .inl (cA, n, .inl f))]) {i : Int32} (hin : vp_in i n) (hdg : decode cc pc = .ok (.iaload, 1))
    (kk : W p l e R s m args below meth c H locs cells slots Q (F0 m (pc + 1) ls (.int (f i.toNatClampNeg) :: rest))) : W p l e R s m args below meth c H locs cells slots Q (F0 m pc ls (.int i :: .ref a :: rest)) :=
  va_iald hx hb hz.1 (hw.cell hi) 0 0 rfl rfl hin hdg kk
theorem k_alen (hx : p.tables.exec = Jvm.exec) (hb : c.code = cc) (hz : zk D cA cR s) (hw : ww A H0 D bs H locs) (j : Nat) {a n : Nat} {f : Nat → Int32} (hi : bs[j]? = some [(a, .inl (cA, n, .inl f))]) (hdg : decode cc pc = .ok (.arraylength, 1))
    (kk : W p l e R s m args below meth c H locs cells slots Q (F0 m (pc + 1) ls (.int (nI n) :: rest))) : W p l e R s m args below meth c H locs cells slots Q (F0 m pc ls (.ref a :: rest)) :=
  va_alen hx hb hz.1 (hw.cell hi) 0 0 rfl rfl rfl hdg kk
theorem k_aldq (hx : p.tables.exec = Jvm.exec) (hb : c.code = cc) (hz : zk D cA cR s) (hw : ww A H0 D bs H locs) (j : Nat) {a n : Nat} {f : Nat → Option Nat} (hi : bs[j]? = some [(a, .inl (cR, n, .inr (.inr (.inr (.inr f)))))]) {i : Int32} (hin : vp_in i n) (hdg : decode cc pc = .ok (.aaload, 1))
    (kk : W p l e R s m args below meth c H locs cells slots Q (F0 m (pc + 1) ls (va_rf (f i.toNatClampNeg) :: rest))) : W p l e R s m args below meth c H locs cells slots Q (F0 m pc ls (.int i :: .ref a :: rest)) :=
  va_aldq hx hb hz.1 (hw.cell hi) 0 1 rfl rfl hin hdg kk
theorem k_alenq (hx : p.tables.exec = Jvm.exec) (hb : c.code = cc) (hz : zk D cA cR s) (hw : ww A H0 D bs H locs) (j : Nat) {a n : Nat} {f : Nat → Option Nat} (hi : bs[j]? = some [(a, .inl (cR, n, .inr (.inr (.inr (.inr f)))))]) (hdg : decode cc pc = .ok (.arraylength, 1))
    (kk : W p l e R s m args below meth c H locs cells slots Q (F0 m (pc + 1) ls (.int (nI n) :: rest))) : W p l e R s m args below meth c H locs cells slots Q (F0 m pc ls (.ref a :: rest)) :=
  va_alen hx hb hz.1 (hw.cell hi) 0 1 rfl rfl rfl hdg kk
theorem k_iast (hx : p.tables.exec = Jvm.exec) (hb : c.code = cc) (hz : zk D cA cR s) (hw : ww A H0 D bs H locs) (j : Nat) {a n : Nat} {f : Nat → Int32} (hi : bs[j]? = some [(a, .inl (cA, n, .inl f))]) {i x : Int32} (hin : vp_in i n) (hdg : decode cc pc = .ok (.iastore, 1)) (hbs : bs.set j [(a, .inl (cA, n, .inl (upd f i.toNatClampNeg x)))] = bs1)
    (kk : ∀ (H1 : Heap) (locs1 : List Loc), ww A H0 D bs1 H1 locs1 → W p l e R s m args below meth c H1 locs1 cells slots Q (F0 m (pc + 1) ls rest)) : W p l e R s m args below meth c H locs cells slots Q (F0 m pc ls (.int x :: .int i :: .ref a :: rest)) := by
  obtain ⟨k0, h1, h2⟩ := bw_at bs j _ hi
  refine va_iast hx hb hz.1 hw.1 hw.2.1 hw.2.2 k0 0 h1 rfl hin hdg (fun H1 locs1 hP hD hS => kk H1 locs1 ⟨?_, ?_, hS⟩)
  · rw [← hbs, ← h2]; exact hP
  · rw [← hbs, ← h2]; exact hD
/-- a copy that stays inside its rows -/
def acok (sp dp n : Int32) (n0 n1 : Nat) : Prop := ¬ sp < 0 ∧ ¬ dp < 0 ∧ ¬ n < 0 ∧ sp.toNatClampNeg + n.toNatClampNeg ≤ n0 ∧ dp.toNatClampNeg + n.toNatClampNeg ≤ n1
theorem k_acopy (hx : p.tables.exec = Jvm.exec) (hb : c.code = cc) (hml : c.maxLocals = ls.size) {own : String} {index : Nat} (hown : s.vm.findClass own = some m.cls) (hlink : (Cond.methodLink own index arraycopyName).before args s = true) (hnat : (Cond.native arraycopyName).before args s = true) (hstat : (Cond.static arraycopyName).before args s = true) (hini : (Cond.initialized "java/lang/System").before args s = true)
    (hz : zk D cA cR s) (hw : ww A H0 D bs H locs) (i0 i1 : Nat) {a0 a n0 n1 : Nat} {f g : Nat → Int32} (h0 : bs[i0]? = some [(a0, .inl (cA, n0, .inl f))]) (h1 : bs[i1]? = some [(a, .inl (cA, n1, .inl g))]) {sp dp n : Int32} (hok : acok sp dp n n0 n1)
    (hframes : 1 ≤ R.frames) (hlocals : (rest.map fun v => v.category).sum + (nativeFrameWords "java/lang/System" "arraycopy" 5 + 11) ≤ R.locals) (hdg : decode cc pc = .ok (.invokestatic index, 3)) (hbs : bs.set i1 [(a, .inl (cA, n1, .inl (va_cpy f g sp.toNatClampNeg dp.toNatClampNeg n.toNatClampNeg)))] = bs1)
    (kk : ∀ (H1 : Heap) (locs1 : List Loc), ww A H0 D bs1 H1 locs1 → W p l e R s m args below meth c H1 locs1 cells slots Q (F0 m (pc + 3) ls rest)) : W p l e R s m args below meth c H locs cells slots Q (F0 m pc ls (.int n :: .int dp :: .ref a :: .int sp :: .ref a0 :: rest)) := by
  obtain ⟨k0, e0, -⟩ := bw_at bs i0 _ h0
  obtain ⟨k1, e1, e2⟩ := bw_at bs i1 _ h1
  refine va_copyi hx hb hml hown hlink hnat hstat hini hz.1 hw.1 hw.2.1 hw.2.2 k0 k1 0 0 e0 e1 rfl rfl rfl hok.1 hok.2.1 hok.2.2.1 hok.2.2.2.1 hok.2.2.2.2 (fun _ _ => rfl) hframes hlocals hdg (fun H1 locs1 hP hD hS => kk H1 locs1 ⟨?_, ?_, hS⟩)
  · rw [← hbs, ← e2]; exact hP
  · rw [← hbs, ← e2]; exact hD
theorem k_free (hw : ww A H0 D bs H locs) (hA : ∀ q, H0.size ≤ q → A q) {isC : List Nat} (hC : isC.map (fun i => bs[i]?) = cs.map some) : ∀ q, va_A (bw cs) H.size q → A q := by
  intro q h
  rcases h with ⟨k, e, h⟩ | h
  · obtain ⟨b, hb, hqb⟩ := List.mem_flatten.mp (List.mem_of_getElem? h)
    obtain ⟨j, hj⟩ := List.getElem?_of_mem hb
    obtain ⟨i, -, hi⟩ := vq_pick hC j b hj
    exact (vq_D.mp hw.2.1).2 (q, e) (List.mem_flatten.mpr ⟨b, List.mem_of_getElem? hi, hqb⟩)
  · exact hA q (Nat.le_trans hw.2.2.1 h)
theorem k_join (hw : ww A H0 D bs H locs) (hA : ∀ q, H0.size ≤ q → A q) {isC isR isF : List Nat} (hC : isC.map (fun i => bs[i]?) = cs.map some) (hR : isR.map (fun i => bs[i]?) = rs.map some) (hn : va_nd (isR ++ isC) = true) (hF : isF.map (fun i => (rs ++ cs1)[i]?) = bs1.map some) (hnF : va_nd isF = true)
    {H1 : Heap} (hk : ∀ q : Nat, q < H.size → ¬ va_A (bw cs) H.size q → H1[q]? = H[q]?) (hP1 : va_P D vwCl (bw cs1) H1) (hD1 : va_D (va_A (bw cs) H.size) (bw cs1)) : va_P D vwCl (bw bs1) H1 ∧ va_D A (bw bs1) := by
  have hRC : (isR ++ isC).map (fun i => bs[i]?) = (rs ++ cs).map some := by rw [List.map_append, hR, hC, List.map_append]
  have hPa := vq_P.mp (vq_subP hw.1 _ hRC)
  have hDa := vq_D.mp (vq_subD hw.2.1 _ hn hRC)
  have e1 : bw (rs ++ cs) = bw rs ++ bw cs := List.flatten_append
  have e2 : bw (rs ++ cs1) = bw rs ++ bw cs1 := List.flatten_append
  rw [e1] at hPa hDa
  have hpw := List.pairwise_append.mp hDa.1
  have hF0 := k_free hw hA hC
  have out : ∀ q ∈ bw rs, ¬ va_A (bw cs) H.size q.1 := by
    intro q hq h
    rcases h with ⟨k, e, h⟩ | h
    · exact hpw.2.2 q hq (q.1, e) (List.mem_of_getElem? h) rfl
    · exact absurd (hPa q (List.mem_append_left _ hq)).lt (Nat.not_lt.mpr h)
  have hP9 : va_P D vwCl (bw (rs ++ cs1)) H1 := by
    rw [vq_P, e2]
    intro q hq
    rcases List.mem_append.mp hq with h | h
    · have h9 := hPa q (List.mem_append_left _ h)
      exact h9.kept (hk q.1 h9.lt (out q h))
    · exact vq_P.mp hP1 q h
  have hD9 : va_D A (bw (rs ++ cs1)) := by
    rw [vq_D, e2]
    have h1 := vq_D.mp hD1
    refine ⟨List.pairwise_append.mpr ⟨hpw.1, h1.1, fun x hx y hy he => ?_⟩, fun q hq => ?_⟩
    · exact out x hx (by rw [he]; exact h1.2 y hy)
    · rcases List.mem_append.mp hq with h | h
      · exact hDa.2 q (List.mem_append_left _ h)
      · exact hF0 _ (h1.2 q h)
  exact ⟨vq_subP hP9 _ hF, vq_subD hD9 _ hnF hF⟩
theorem k_call {mc ms : Nat} {st0 : List Value} {o : Option Value} {aa : Array Value} (hw : ww A H0 D bs H locs) (hA : ∀ q, H0.size ≤ q → A q) (isC isR isF : List Nat) (hC : isC.map (fun i => bs[i]?) = cs.map some) (hR : isR.map (fun i => bs[i]?) = rs.map some) (hn : va_nd (isR ++ isC) = true) (hF : isF.map (fun i => (rs ++ cs1)[i]?) = bs1.map some) (hnF : va_nd isF = true)
    (hr : va_Run p l e R s m args below meth c H locs cells slots mc ms (F0 m pc ls st0) rest (mQ D (va_A (bw cs) H.size) o cs1 aa) (va_A (bw cs) H.size))
    {st1 : List Value} (hst1 : o.toList ++ rest = st1) (kk : ∀ (H1 : Heap) (locs1 : List Loc), ww A H0 D bs1 H1 locs1 → W p l e R s m args below meth c H1 locs1 (cells + mc) (slots + ms) Q (F0 m (pc + 3) ls st1)) : W p l e R s m args below meth c H locs cells slots Q (F0 m pc ls st0) := by
  subst hst1
  intro T hT X
  obtain ⟨v, st₀, t, T', L, h0, X', hL, e1, e2, ⟨⟨hv, hP1, hD1⟩, hz, hk⟩, st⟩ := hr T hT X
  cases hv
  rw [h0] at hz hk
  have hF0 := k_free hw hA hC
  rw [← e1] at hP1
  obtain ⟨hP2, hD2⟩ := k_join hw hA hC hR hn hF hnF (H1 := T'.heap) (fun q h1 h2 => by rw [e1]; exact hk q h1 h2) hP1 hD1
  obtain ⟨t2, a1, b1⟩ := kk T'.heap (locs ++ L) ⟨hP2, hD2, ⟨Nat.le_trans hw.2.2.1 (by rw [e1]; exact hz), fun q h1 h2 => by rw [e1, hk q (Nat.lt_of_lt_of_le h1 hw.2.2.1) (fun z => h2 (hF0 q z))]; exact hw.2.2.2.1 q h1 h2, fun q hq => by
      rcases List.mem_append.mp hq with h | h
      · exact hw.2.2.2.2 q h
      · exact hF0 _ (hL q h)⟩⟩ T' rfl X'
  exact ⟨t2, st t2 a1, b1⟩
variable {y : MethodName} {ws ws' : List Cond} {rm : Room} {bytes : ByteArray} {maxL index nL mc ms ci N b nA : Nat} {ret : Option FieldType} {Ts : List Cond} {own C host : String} {T : u_T} {As fs st0 st1 : List Value} {o : Option Value}
theorem k_callV (S : CallFix p m c cc nL s args Ts own) (hz : zk D cA cR s) (hw : ww A H0 D bs H locs) (hA : ∀ q, H0.size ≤ q → A q) (hM : MI l y ws rm D cA cR (.ref b :: As) cs o cs1 mc ms) (hT : GoodIn Ts (wsV own index C y ws)) (hwc : ws = Cond.code y bytes maxL ret :: ws') (hrc : rm.cells = mc) (hrs : rm.slots = ms)
    (hd : y.cls = C ∧ y.cls ≠ "java/lang/invoke/MethodHandle" ∧ y.cls ≠ "java/lang/invoke/VarHandle" ∧ (parseMethodDescriptor y.desc).map (fun d => d.parameters.length) = some nA) (hnA : As.length = nA) (hR : rm.frames + 1 ≤ R.frames ∧ 8 + (maxL + 11) + rm.locals ≤ R.locals) (hc : vwCl[ci]? = some (C, T, N)) (he : (bw cs)[0]? = some (b, .inr (ci, fs))) (hsize : ls.size = nL) (hstk : st0 = As.reverse ++ .ref b :: rest) (hrest : (rest.map fun v => v.category).sum ≤ 8) (hdg : decode cc pc = .ok (.invokevirtual index, 3)) (hf : cells + mc ≤ R.cells ∧ slots + ms ≤ R.slots)
    (isC isR isF : List Nat) (hC : isC.map (fun i => bs[i]?) = cs.map some) (hRs : isR.map (fun i => bs[i]?) = rs.map some) (hn : va_nd (isR ++ isC) = true) (hF : isF.map (fun i => (rs ++ cs1)[i]?) = bs1.map some) (hnF : va_nd isF = true) (hst1 : o.toList ++ rest = st1)
    (kk : ∀ (H1 : Heap) (locs1 : List Loc), ww A H0 D bs1 H1 locs1 → W p l e R s m args below meth c H1 locs1 (cells + mc) (slots + ms) Q (F0 m (pc + 3) ls st1)) : W p l e R s m args below meth c H locs cells slots Q (F0 m pc ls st0) := by
  have hP1 := vq_subP hw.1 isC hC
  have hD1 : va_D A (bw cs) := by
    rw [vq_D]
    exact ⟨(List.pairwise_append.mp (by have h9 := (vq_D.mp (vq_subD hw.2.1 (isR ++ isC) hn (bs' := rs ++ cs) (by rw [List.map_append, hRs, hC, List.map_append]))).1; rw [show bw (rs ++ cs) = bw rs ++ bw cs from List.flatten_append] at h9; exact h9)).2.1, fun q hq => k_free hw hA hC q.1 (Or.inl (by obtain ⟨k, hk⟩ := List.getElem?_of_mem hq; exact ⟨k, q.2, hk⟩))⟩
  exact k_call hw hA isC isR isF hC hRs hn hF hnF (va_runV (As := As) (rest := rest) (n := nA) S (hM H.size) (cwV nA S.2.2.2.2 hT hwc hrc hrs hd hR) ⟨mP_blind, va_recv hz.1 hP1 hc he, mP_pre hP1 hD1 hz⟩ rfl hnA hsize hstk (lv_room hrest) hdg hf) hst1 kk
theorem k_cut (hw : ww A H0 D bs H locs) (hA : ∀ q, H0.size ≤ q → A q) (isC isR : List Nat) (hC : isC.map (fun i => bs[i]?) = cs.map some) (hRs : isR.map (fun i => bs[i]?) = rs.map some) (hn : va_nd (isR ++ isC) = true) : va_P D vwCl (bw cs) H ∧ va_D A (bw cs) := by
  refine ⟨vq_subP hw.1 isC hC, ?_⟩
  rw [vq_D]
  exact ⟨(List.pairwise_append.mp (by have h9 := (vq_D.mp (vq_subD hw.2.1 (isR ++ isC) hn (bs' := rs ++ cs) (by rw [List.map_append, hRs, hC, List.map_append]))).1; rw [show bw (rs ++ cs) = bw rs ++ bw cs from List.flatten_append] at h9; exact h9)).2.1, fun q hq => k_free hw hA hC q.1 (Or.inl (by obtain ⟨k, hk⟩ := List.getElem?_of_mem hq; exact ⟨k, q.2, hk⟩))⟩
theorem k_callS (S : CallFix p m c cc nL s args Ts own) (hz : zk D cA cR s) (hw : ww A H0 D bs H locs) (hA : ∀ q, H0.size ≤ q → A q) (hM : MI l y ws rm D cA cR As cs o cs1 mc ms) (hT : GoodIn Ts (va_wsS own index y ws)) (hwc : ws = Cond.code y bytes maxL ret :: ws') (hrc : rm.cells = mc) (hrs : rm.slots = ms)
    (hd : y.cls ≠ "java/lang/invoke/MethodHandle" ∧ y.cls ≠ "java/lang/invoke/VarHandle" ∧ (parseMethodDescriptor y.desc).map (fun d => d.parameters.length) = some nA) (hnA : As.length = nA) (hR : rm.frames + 1 ≤ R.frames ∧ 8 + (maxL + 11) + rm.locals ≤ R.locals) (hsize : ls.size = nL) (hstk : st0 = As.reverse ++ rest) (hrest : (rest.map fun v => v.category).sum ≤ 8) (hdg : decode cc pc = .ok (.invokestatic index, 3)) (hf : cells + mc ≤ R.cells ∧ slots + ms ≤ R.slots)
    (isC isR isF : List Nat) (hC : isC.map (fun i => bs[i]?) = cs.map some) (hRs : isR.map (fun i => bs[i]?) = rs.map some) (hn : va_nd (isR ++ isC) = true) (hF : isF.map (fun i => (rs ++ cs1)[i]?) = bs1.map some) (hnF : va_nd isF = true) (hst1 : o.toList ++ rest = st1)
    (kk : ∀ (H1 : Heap) (locs1 : List Loc), ww A H0 D bs1 H1 locs1 → W p l e R s m args below meth c H1 locs1 (cells + mc) (slots + ms) Q (F0 m (pc + 3) ls st1)) : W p l e R s m args below meth c H locs cells slots Q (F0 m pc ls st0) := by
  obtain ⟨hP1, hD1⟩ := k_cut hw hA isC isR hC hRs hn
  exact k_call hw hA isC isR isF hC hRs hn hF hnF (va_runS (As := As) (rest := rest) (n := nA) S (hM H.size) (va_cwS nA S.2.2.2.2 hT hwc hrc hrs hd hR) ⟨mP_blind, mP_pre hP1 hD1 hz⟩ rfl hnA hsize hstk (lv_room hrest) hdg hf) hst1 kk
theorem k_callSN (S : CallFix p m c cc nL s args Ts own) (hz : zk D cA cR s) (hw : ww A H0 D bs H locs) (hA : ∀ q, H0.size ≤ q → A q) (hM : MI l y ws rm D cA cR As cs o cs1 mc ms) (hT : GoodIn Ts ws) (hwc : ws = Cond.code y bytes maxL ret :: ws') (hrc : rm.cells = mc) (hrs : rm.slots = ms) (hl : Cond.methodLinkNest own index y host ∈ nW) (hini : Cond.initialized y.cls ∈ Ts) (hsta : Cond.static y ∈ Ts)
    (hd : y.cls ≠ "java/lang/invoke/MethodHandle" ∧ y.cls ≠ "java/lang/invoke/VarHandle" ∧ (parseMethodDescriptor y.desc).map (fun d => d.parameters.length) = some nA) (hnA : As.length = nA) (hR : rm.frames + 1 ≤ R.frames ∧ 8 + (maxL + 11) + rm.locals ≤ R.locals) (hsize : ls.size = nL) (hstk : st0 = As.reverse ++ rest) (hrest : (rest.map fun v => v.category).sum ≤ 8) (hdg : decode cc pc = .ok (.invokestatic index, 3)) (hf : cells + mc ≤ R.cells ∧ slots + ms ≤ R.slots)
    (isC isR isF : List Nat) (hC : isC.map (fun i => bs[i]?) = cs.map some) (hRs : isR.map (fun i => bs[i]?) = rs.map some) (hn : va_nd (isR ++ isC) = true) (hF : isF.map (fun i => (rs ++ cs1)[i]?) = bs1.map some) (hnF : va_nd isF = true) (hst1 : o.toList ++ rest = st1)
    (kk : ∀ (H1 : Heap) (locs1 : List Loc), ww A H0 D bs1 H1 locs1 → W p l e R s m args below meth c H1 locs1 (cells + mc) (slots + ms) Q (F0 m (pc + 3) ls st1)) : W p l e R s m args below meth c H locs cells slots Q (F0 m pc ls st0) := by
  obtain ⟨hP1, hD1⟩ := k_cut hw hA isC isR hC hRs hn
  exact k_call hw hA isC isR isF hC hRs hn hF hnF (va_runSN (As := As) (rest := rest) (n := nA) S (hM H.size) ⟨va_cnB nA S.2.2.2.2 hT hwc hrc hrs (hz.2 _ hl) (S.2.2.2.2 _ hini) hd hR, S.2.2.2.2 _ hsta, trivial⟩ ⟨mP_blind, mP_pre hP1 hD1 hz⟩ rfl hnA hsize hstk (lv_room hrest) hdg hf) hst1 kk
theorem k_callI (S : CallFix p m c cc nL s args Ts own) (hz : zk D cA cR s) (hw : ww A H0 D bs H locs) (hA : ∀ q, H0.size ≤ q → A q) (hM : MI l y ws rm D cA cR (.ref b :: As) cs o cs1 mc ms) (hT : GoodIn Ts ws) (hwc : ws = Cond.code y bytes maxL none :: ws') (hrc : rm.cells = mc) (hrs : rm.slots = ms) (hini : Cond.initialized y.cls ∈ Ts) (hl : Cond.methodLink own index y ∈ Ts) (hin : Cond.instanceMethod y ∈ Ts) (hy1 : y.name = "<init>")
    (hd : y.cls ≠ "java/lang/invoke/MethodHandle" ∧ y.cls ≠ "java/lang/invoke/VarHandle" ∧ (parseMethodDescriptor y.desc).map (fun d => d.parameters.length) = some nA) (hnA : As.length = nA) (hR : rm.frames + 1 ≤ R.frames ∧ 8 + (maxL + 11) + rm.locals ≤ R.locals) (hsize : ls.size = nL) (hstk : st0 = As.reverse ++ .ref b :: rest) (hrest : (rest.map fun v => v.category).sum ≤ 8) (hdg : decode cc pc = .ok (.invokespecial index, 3)) (hf : cells + mc ≤ R.cells ∧ slots + ms ≤ R.slots)
    (isC isR isF : List Nat) (hC : isC.map (fun i => bs[i]?) = cs.map some) (hRs : isR.map (fun i => bs[i]?) = rs.map some) (hn : va_nd (isR ++ isC) = true) (hF : isF.map (fun i => (rs ++ cs1)[i]?) = bs1.map some) (hnF : va_nd isF = true) (hst1 : o.toList ++ rest = st1)
    (kk : ∀ (H1 : Heap) (locs1 : List Loc), ww A H0 D bs1 H1 locs1 → W p l e R s m args below meth c H1 locs1 (cells + mc) (slots + ms) Q (F0 m (pc + 3) ls st1)) : W p l e R s m args below meth c H locs cells slots Q (F0 m pc ls st0) := by
  obtain ⟨hP1, hD1⟩ := k_cut hw hA isC isR hC hRs hn
  exact k_call hw hA isC isR isF hC hRs hn hF hnF (va_runI (As := As) (rest := rest) (n := nA) S (hM H.size) (cwI nA S.2.2.2.2 hT hwc hrc hrs (S.2.2.2.2 _ hini) (S.2.2.2.2 _ hl) (S.2.2.2.2 _ hin) hy1 hd hR) ⟨mP_blind, mP_pre hP1 hD1 hz⟩ rfl hnA hsize hstk (lv_room hrest) hdg hf) hst1 kk
theorem k_callIN (S : CallFix p m c cc nL s args Ts own) (hz : zk D cA cR s) (hw : ww A H0 D bs H locs) (hA : ∀ q, H0.size ≤ q → A q) (hM : MI l y ws rm D cA cR (.ref b :: As) cs o cs1 mc ms) (hT : GoodIn Ts ws) (hwc : ws = Cond.code y bytes maxL none :: ws') (hrc : rm.cells = mc) (hrs : rm.slots = ms) (hini : Cond.initialized y.cls ∈ Ts) (hl : Cond.methodLinkNest own index y host ∈ nW) (hin : Cond.instanceMethod y ∈ Ts) (hy1 : y.name = "<init>")
    (hd : y.cls ≠ "java/lang/invoke/MethodHandle" ∧ y.cls ≠ "java/lang/invoke/VarHandle" ∧ (parseMethodDescriptor y.desc).map (fun d => d.parameters.length) = some nA) (hnA : As.length = nA) (hR : rm.frames + 1 ≤ R.frames ∧ 8 + (maxL + 11) + rm.locals ≤ R.locals) (hsize : ls.size = nL) (hstk : st0 = As.reverse ++ .ref b :: rest) (hrest : (rest.map fun v => v.category).sum ≤ 8) (hdg : decode cc pc = .ok (.invokespecial index, 3)) (hf : cells + mc ≤ R.cells ∧ slots + ms ≤ R.slots)
    (isC isR isF : List Nat) (hC : isC.map (fun i => bs[i]?) = cs.map some) (hRs : isR.map (fun i => bs[i]?) = rs.map some) (hn : va_nd (isR ++ isC) = true) (hF : isF.map (fun i => (rs ++ cs1)[i]?) = bs1.map some) (hnF : va_nd isF = true) (hst1 : o.toList ++ rest = st1)
    (kk : ∀ (H1 : Heap) (locs1 : List Loc), ww A H0 D bs1 H1 locs1 → W p l e R s m args below meth c H1 locs1 (cells + mc) (slots + ms) Q (F0 m (pc + 3) ls st1)) : W p l e R s m args below meth c H locs cells slots Q (F0 m pc ls st0) := by
  obtain ⟨hP1, hD1⟩ := k_cut hw hA isC isR hC hRs hn
  exact k_call hw hA isC isR isF hC hRs hn hF hnF (va_runIN (As := As) (rest := rest) (n := nA) S (hM H.size) ⟨va_cnB nA S.2.2.2.2 hT hwc hrc hrs (hz.2 _ hl) (S.2.2.2.2 _ hini) hd hR, hy1, S.2.2.2.2 _ hin⟩ ⟨mP_blind, mP_pre hP1 hD1 hz⟩ rfl hnA hsize hstk (lv_room hrest) hdg hf) hst1 kk
end KM
/-! pure specs: what a method does to its numbers and rows, none where it would go outside a row or divide by 0 -/
noncomputable def grd {α : Type} (c : Prop) (k : Option α) : Option α := @ite _ c (Classical.propDecidable c) k none
theorem grd_of {α : Type} {c : Prop} {k : Option α} {o : α} (h : grd c k = some o) : c ∧ k = some o := by
  unfold grd at h
  by_cases hc : c
  · rw [if_pos hc] at h; exact ⟨hc, h⟩
  · rw [if_neg hc] at h; cases h
theorem grd_pos {α : Type} {c : Prop} (hc : c) (k : Option α) : grd c k = k := by
  unfold grd
  rw [if_pos hc]
theorem ift {α : Type} {c : Prop} {i : Decidable c} {a b : Option α} {o : α} (hc : c) (h : @ite _ c i a b = some o) : a = some o := by rw [if_pos hc] at h; exact h
theorem iff_ {α : Type} {c : Prop} {i : Decidable c} {a b : Option α} {o : α} (hc : ¬ c) (h : @ite _ c i a b = some o) : b = some o := by rw [if_neg hc] at h; exact h
def lt_ {α β : Type} (x : α) (k : α → β) : β := k x
theorem lt_of {α β : Type} {x y : α} {k : α → β} {r : β} (h : lt_ x k = r) (hy : y = x) : k y = r := by rw [hy]; exact h
theorem bnd_of {α β : Type} {x : Option α} {k : α → Option β} {o : β} (h : x.bind k = some o) : ∃ z, x = some z ∧ k z = some o := Option.bind_eq_some_iff.mp h
def eli {α β γ : Type} (o : α ⊕ β) (f : α → Option γ) (g : β → Option γ) : Option γ := match o with
  | .inl a => f a
  | .inr b => g b
theorem eli_l {α β γ : Type} {a : α} {f : α → Option γ} {g : β → Option γ} {o : γ} (h : eli (.inl a) f g = some o) : f a = some o := h
theorem eli_r {α β γ : Type} {b : β} {f : α → Option γ} {g : β → Option γ} {o : γ} (h : eli (.inr b) f g = some o) : g b = some o := h
