/-! what holds of the tables where the law begins -/
theorem nW_in : ∀ w ∈ nW, w ∈ lw_tbl := by decide +kernel
theorem xB_in : ∀ w ∈ xB, w ∈ lw_tbl := by decide +kernel
theorem xT_in : ∀ i ∈ xT, Cond.stringRef RX10 i.1 i.2 ∈ lw_tbl := by decide +kernel
section ST0
variable {s : State} {b : Nat}
theorem st_cls (hts : ∀ w ∈ lw_tbl, w.before #[Value.ref b] s = true) : ∃ D : va_G, ∀ (c : Nat) (q : vw_C), vwCl[c]? = some q → u_Kn s q.1 q.2.1 q.2.2 (D.1 c) (D.2 c) := by
  obtain ⟨c0, i0, k0⟩ := u_known (n := 2) hts lwx_wsX00 (hts (.instantiable RX0 2) (by decide +kernel))
  obtain ⟨c1, i1, k1⟩ := u_known (n := 3) hts lwx_wsX10 (hts (.instantiable RX1 3) (by decide +kernel))
  obtain ⟨c2, i2, k2⟩ := u_known (n := 4) hts lwx_wsX20 (hts (.instantiable RX2 4) (by decide +kernel))
  obtain ⟨c3, i3, k3⟩ := u_known (n := 3) hts lwx_wsX30 (hts (.instantiable RX3 3) (by decide +kernel))
  obtain ⟨c4, i4, k4⟩ := u_known (n := 4) hts lwx_wsX40 (hts (.instantiable RX4 4) (by decide +kernel))
  obtain ⟨c5, i5, k5⟩ := u_known (n := 4) hts lwx_wsX50 (hts (.instantiable RX5 4) (by decide +kernel))
  obtain ⟨c6, i6, k6⟩ := u_known (n := 4) hts lwx_wsX60 (hts (.instantiable RX6 4) (by decide +kernel))
  obtain ⟨c7, i7, k7⟩ := u_known (n := 2) hts lwx_wsX70 (hts (.instantiable RX7 2) (by decide +kernel))
  obtain ⟨c8, i8, k8⟩ := u_known (n := 9) hts lwx_wsX80 (hts (.instantiable RX8 9) (by decide +kernel))
  obtain ⟨c9, i9, k9⟩ := u_known (n := 3) hts lwx_wsX90 (hts (.instantiable RX9 3) (by decide +kernel))
  obtain ⟨c10, i10, k10⟩ := u_known (n := 7) hts lwx_wsX100 (hts (.instantiable RX10 7) (by decide +kernel))
  obtain ⟨c11, i11, k11⟩ := u_known (n := 14) hts lwx_wsX110 (hts (.instantiable RX11 14) (by decide +kernel))
  refine ⟨(fun c => match c with | 0 => c0 | 1 => c1 | 2 => c2 | 3 => c3 | 4 => c4 | 5 => c5 | 6 => c6 | 7 => c7 | 8 => c8 | 9 => c9 | 10 => c10 | _ => c11, fun c => match c with | 0 => i0 | 1 => i1 | 2 => i2 | 3 => i3 | 4 => i4 | 5 => i5 | 6 => i6 | 7 => i7 | 8 => i8 | 9 => i9 | 10 => i10 | _ => i11), fun c q hq => ?_⟩
  have hc : c < 12 := (List.getElem?_eq_some_iff.mp hq).1
  rcases (show c = 0 ∨ c = 1 ∨ c = 2 ∨ c = 3 ∨ c = 4 ∨ c = 5 ∨ c = 6 ∨ c = 7 ∨ c = 8 ∨ c = 9 ∨ c = 10 ∨ c = 11 by omega) with rfl | rfl | rfl | rfl | rfl | rfl | rfl | rfl | rfl | rfl | rfl | rfl
  · obtain rfl := Option.some.inj hq
    exact k0
  · obtain rfl := Option.some.inj hq
    exact k1
  · obtain rfl := Option.some.inj hq
    exact k2
  · obtain rfl := Option.some.inj hq
    exact k3
  · obtain rfl := Option.some.inj hq
    exact k4
  · obtain rfl := Option.some.inj hq
    exact k5
  · obtain rfl := Option.some.inj hq
    exact k6
  · obtain rfl := Option.some.inj hq
    exact k7
  · obtain rfl := Option.some.inj hq
    exact k8
  · obtain rfl := Option.some.inj hq
    exact k9
  · obtain rfl := Option.some.inj hq
    exact k10
  · obtain rfl := Option.some.inj hq
    exact k11
theorem st_arr {ty : FieldType} {args : Array Value} (h : (Cond.arrayClass ty).before args s = true) : ∃ cA : ClassId, ArrOfT s cA ty ∧ s.vm.findClass ("[" ++ ty.toString) = some cA := by
  obtain ⟨cA, kA, comp, hf, hk, hkind⟩ := Cond.arrayClass_spec h
  exact ⟨cA, fun n z => ⟨fun k h => (by cases h), kA, hk, comp, hkind⟩, hf⟩
theorem st_arq {C : String} (h : va_AO C s) : ∃ cA : ClassId, ArrOfT s cA (.object C) ∧ va_RA s cA (.object C) := by
  obtain ⟨comp, c, k, h1, h2, h3, h4, h5⟩ := Cond.arrayOver_spec h
  exact ⟨c, fun n z => ⟨fun k h => (by cases h), k, h3, comp, h4⟩, k, comp, h3, h4, h1, h5⟩
theorem st_zk (hts : ∀ w ∈ lw_tbl, w.before #[Value.ref b] s = true) (hO : va_AO RX8 s) : ∃ (D : va_G) (cA cR cL cF : ClassId), zk D cA cR s ∧ zl D cL cF s := by
  obtain ⟨D, hD⟩ := st_cls hts
  obtain ⟨cA, a1, a2⟩ := st_arr (ty := .int) (hts (.arrayClass .int) (by decide +kernel))
  obtain ⟨cL, l1, l2⟩ := st_arr (ty := .long) (hts (.arrayClass .long) (by decide +kernel))
  obtain ⟨cF, f1, f2⟩ := st_arr (ty := .double) (hts (.arrayClass .double) (by decide +kernel))
  obtain ⟨cR, r1, r2⟩ := st_arq hO
  refine ⟨D, cA, cR, cL, cF, ⟨⟨hD, fun k q hq => ?_⟩, fun w hw => va_Nw.of (nW_tab w hw) (hts w (nW_in w hw))⟩, hD, fun k q hq => ?_⟩
  · have hk : k < 2 := (List.getElem?_eq_some_iff.mp hq).1
    rcases (show k = 0 ∨ k = 1 by omega) with rfl | rfl
    · obtain rfl := Option.some.inj hq
      exact ⟨a1, a2⟩
    · obtain rfl := Option.some.inj hq
      exact ⟨r1, r2⟩
  · have hk : k < 2 := (List.getElem?_eq_some_iff.mp hq).1
    rcases (show k = 0 ∨ k = 1 by omega) with rfl | rfl
    · obtain rfl := Option.some.inj hq
      exact ⟨l1, l2⟩
    · obtain rfl := Option.some.inj hq
      exact ⟨f1, f2⟩
theorem st_str {own tx : String} {k : Nat} {args : Array Value} (h : (Cond.stringRef own k tx).before args s = true) : ∃ a, vk_R own k tx a s := by
  have hcur : ∃ cur, s.vm.findClass own = some cur := by
    have h1 := h
    simp only [Cond.before, Cond.holds, Cond.value] at h1
    cases hc : s.vm.findClass own with
    | none => simp [hc] at h1
    | some cur => exact ⟨cur, rfl⟩
  obtain ⟨cur, hcur⟩ := hcur
  obtain ⟨-, -, -, a, -, -, -, -, -, ha⟩ := Cond.stringRef_spec hcur h
  exact ⟨a, vk_R.of h ha⟩
theorem st_zx (hts : ∀ w ∈ lw_tbl, w.before #[Value.ref b] s = true) (hgv : (Jvm.Cond.and given_1 narrow_1).before #[Value.ref b] s = true) : zx (fun q : Nat => s.heap.size ≤ q) s s.heap := by
  have hs := flat_of_before _ hgv
  have hA : ∀ a : Nat, a < s.heap.size → ¬ (fun q : Nat => s.heap.size ≤ q) a := fun a h => Nat.not_le.mpr h
  refine ⟨fun w hw => va_Nw.of (xB_tab w hw) (hts w (xB_in w hw)), fun i hi => st_str (hts _ (xT_in i hi)), fun i j hi hj hij => ?_, ?_, ?_⟩
  · rcases (show i = 0 ∨ i = 1 ∨ i = 2 by omega) with rfl | rfl | rfl <;> rcases (show j = 0 ∨ j = 1 ∨ j = 2 by omega) with rfl | rfl | rfl
    · exact absurd rfl hij
    · exact va_Nc.of (hs _ (by decide +kernel))
    · exact va_Nc.of (hs _ (by decide +kernel))
    · exact va_Nc.of (hs _ (by decide +kernel))
    · exact absurd rfl hij
    · exact va_Nc.of (hs _ (by decide +kernel))
    · exact va_Nc.of (hs _ (by decide +kernel))
    · exact va_Nc.of (hs _ (by decide +kernel))
    · exact absurd rfl hij
  · exact vx_Zqof (hts _ (by decide +kernel)) (hts _ (by decide +kernel)) (hs _ (by decide +kernel)) hA
  · exact vx_Zqof (hts _ (by decide +kernel)) (hts _ (by decide +kernel)) (hs _ (by decide +kernel)) hA
theorem st_fl {l : Launch} (h : l.flags = flags0) : l.stackTraces = false := by
  unfold Launch.stackTraces
  rw [h]
  decide +kernel
end ST0
