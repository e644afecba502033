set_option maxHeartbeats 4000000 in
set_option maxRecDepth 100000 in
theorem lk_7 {p : Program} {l : Launch} {e : Env} {s : State} {m : MethodId} {below : List Frame} {meth : Method} {c : Code} {D : va_G} {cA cR cL cF : ClassId} {b L : Nat} {xs : Nat → Int32} {RR : Nat → V10 → V11 → Prop} {N : Nat} (hpu : PU_clearText RR N) (X : LX p l s m c b L xs D cA cR cL cF) {k0 s0 : Nat} (hk0 : k0 + 1 ≤ 601024) (hs0 : s0 + 6 ≤ 7293034) {cn : Nat} (hcn : cn < 512) {x5 : Int32} {v : V10} {w : V11} {a0 : A10} {a1 : A11} {q3 q4 : Nat} {f3 : Nat → Int64} {f4 : Nat → UInt64} {H : Heap} {locs : List Loc} {ls : Array Slot} {Q : State → Prop} (hR : RR cn v w) (hw : ww (fun q : Nat => s.heap.size ≤ q) s.heap D [w10 cA cR a0 v, w11 cA a1 w, [(q3, .inl (cL, 1, .inr (.inl f3)))], [(q4, .inl (cF, 1, .inr (.inr (.inr (.inl f4)))))]] H locs) (hl : lv_has ls 9 [(0, .ref b), (1, .ref a0.1), (2, .ref a1.1), (3, .ref q3), (4, .ref q4), (5, .int x5)])
    (kk : ∀ (v : V10) (w : V11) (f3 : Nat → Int64) (f4 : Nat → UInt64) (H : Heap) (locs : List Loc) (ls : Array Slot), RR (cn + 1) v w → ww (fun q : Nat => s.heap.size ≤ q) s.heap D [w10 cA cR a0 v, w11 cA a1 w, [(q3, .inl (cL, 1, .inr (.inl f3)))], [(q4, .inl (cF, 1, .inr (.inr (.inr (.inl f4)))))]] H locs → lv_has ls 9 [(0, .ref b), (1, .ref a0.1), (2, .ref a1.1), (3, .ref q3), (4, .ref q4), (5, .int x5)] → W p l e room_1 s m #[Value.ref b] below meth c H locs (k0 + 1) (s0 + 6) Q (F0 m 1547 ls [])) : W p l e room_1 s m #[Value.ref b] below meth c H locs k0 s0 Q (F0 m 704 ls []) := by
  obtain ⟨hx, hb, hml, hown, hts, hX, hbl, hz, hzl, hzx, hlt⟩ := X
  have hA : ∀ q : Nat, s.heap.size ≤ q → (fun q : Nat => s.heap.size ≤ q) q := fun _ h => h
  have hbA : ¬ (fun q : Nat => s.heap.size ≤ q) b := Nat.not_le.mpr hbl
  obtain ⟨u, z, hu, hz1, hret, hR⟩ := hpu cn v w hcn hR
  refine lv_aload_n hx hb dL_law_704 rfl (lv_at hl 1 rfl) ?_
  refine k_callV (ci := 10) (C := RX10) (T := TX10) (N := 7) (nA := 0) (As := []) (cs := [w10 cA cR a0 v]) (rs := [w11 cA a1 w, [(q3, .inl (cL, 1, .inr (.inl f3)))], [(q4, .inl (cF, 1, .inr (.inr (.inr (.inl f4)))))]]) (cs1 := [w10 cA cR a0 u.2]) (bs1 := [w10 cA cR a0 u.2, w11 cA a1 w, [(q3, .inl (cL, 1, .inr (.inl f3)))], [(q4, .inl (cF, 1, .inr (.inr (.inr (.inl f4)))))]]) (rest := []) (st1 := [.int u.1]) ⟨hx, hb, hml, hown, hts⟩ hz hw hA (mX10_clearText l D cA cR a0 v u hu) gL_law_X10_clearText rfl rfl rfl (by decide +kernel) rfl ⟨Nat.le_of_ble_eq_true rfl, Nat.le_of_ble_eq_true rfl⟩ rfl rfl hl.1 rfl (Nat.le_of_ble_eq_true rfl) dL_law_705 ⟨(by show _ ≤ 601024; omega), (by show _ ≤ 7293034; omega)⟩ [0] [1, 2, 3] [3, 0, 1, 2] rfl rfl rfl rfl rfl rfl (fun H locs hw => ?_)
  refine lv_aload_n hx hb dL_law_708 rfl (lv_at hl 2 rfl) ?_
  refine k_callV (ci := 11) (C := RX11) (T := TX11) (N := 14) (nA := 0) (As := []) (cs := [w11 cA a1 w]) (rs := [w10 cA cR a0 u.2, [(q3, .inl (cL, 1, .inr (.inl f3)))], [(q4, .inl (cF, 1, .inr (.inr (.inr (.inl f4)))))]]) (cs1 := [w11 cA a1 z.2]) (bs1 := [w10 cA cR a0 u.2, w11 cA a1 z.2, [(q3, .inl (cL, 1, .inr (.inl f3)))], [(q4, .inl (cF, 1, .inr (.inr (.inr (.inl f4)))))]]) (rest := [.int u.1]) (st1 := [.int z.1, .int u.1]) ⟨hx, hb, hml, hown, hts⟩ hz hw hA (mX11_clearText l D cA cR a1 w z hz1) gL_law_X11_clearText rfl rfl rfl (by decide +kernel) rfl ⟨Nat.le_of_ble_eq_true rfl, Nat.le_of_ble_eq_true rfl⟩ rfl rfl hl.1 rfl (Nat.le_of_ble_eq_true rfl) dL_law_709 ⟨(by show _ ≤ 601024; omega), (by show _ ≤ 7293034; omega)⟩ [1] [0, 2, 3] [0, 3, 1, 2] rfl rfl rfl rfl rfl rfl (fun H locs hw => ?_)
  refine lv_icmp_eq (tgt := 1547) hx hb dL_law_712 (by decide) (fun _ => ?_) (fun cc => absurd hret cc)
  refine W.widen (k := k0 + 1) (n := s0 + 6) (by omega) (by omega) ?_
  exact kk u.2 z.2 f3 f4 _ _ _ hR hw hl
set_option maxHeartbeats 4000000 in
set_option maxRecDepth 100000 in
theorem lk_6 {p : Program} {l : Launch} {e : Env} {s : State} {m : MethodId} {below : List Frame} {meth : Method} {c : Code} {D : va_G} {cA cR cL cF : ClassId} {b L : Nat} {xs : Nat → Int32} {RR : Nat → V10 → V11 → Prop} {N : Nat} (hpu : PU_append RR N) (X : LX p l s m c b L xs D cA cR cL cF) {k0 s0 : Nat} (hk0 : k0 + 1 ≤ 601024) (hs0 : s0 + 6 ≤ 7293034) {cn : Nat} (hcn : cn < 512) {x5 : Int32} {p1 : Int32} (h1 : vp_in (x5 + 1) L) (e1 : xs (x5 + 1).toNatClampNeg = p1) {v : V10} {w : V11} {a0 : A10} {a1 : A11} {q3 q4 : Nat} {f3 : Nat → Int64} {f4 : Nat → UInt64} {H : Heap} {locs : List Loc} {ls : Array Slot} {Q : State → Prop} (hR : RR cn v w) (hw : ww (fun q : Nat => s.heap.size ≤ q) s.heap D [w10 cA cR a0 v, w11 cA a1 w, [(q3, .inl (cL, 1, .inr (.inl f3)))], [(q4, .inl (cF, 1, .inr (.inr (.inr (.inl f4)))))]] H locs) (hl : lv_has ls 9 [(0, .ref b), (1, .ref a0.1), (2, .ref a1.1), (3, .ref q3), (4, .ref q4), (5, .int x5)])
    (kk : ∀ (v : V10) (w : V11) (f3 : Nat → Int64) (f4 : Nat → UInt64) (H : Heap) (locs : List Loc) (ls : Array Slot), RR (cn + 1) v w → ww (fun q : Nat => s.heap.size ≤ q) s.heap D [w10 cA cR a0 v, w11 cA a1 w, [(q3, .inl (cL, 1, .inr (.inl f3)))], [(q4, .inl (cF, 1, .inr (.inr (.inr (.inl f4)))))]] H locs → lv_has ls 9 [(0, .ref b), (1, .ref a0.1), (2, .ref a1.1), (3, .ref q3), (4, .ref q4), (5, .int x5)] → W p l e room_1 s m #[Value.ref b] below meth c H locs (k0 + 1) (s0 + 6) Q (F0 m 1547 ls [])) : W p l e room_1 s m #[Value.ref b] below meth c H locs k0 s0 Q (F0 m 648 ls []) := by
  obtain ⟨hx, hb, hml, hown, hts, hX, hbl, hz, hzl, hzx, hlt⟩ := X
  have hA : ∀ q : Nat, s.heap.size ≤ q → (fun q : Nat => s.heap.size ≤ q) q := fun _ h => h
  have hbA : ¬ (fun q : Nat => s.heap.size ≤ q) b := Nat.not_le.mpr hbl
  rcases hpu cn v w p1 hcn hR with ⟨u, z, hu, hz1, hth, hret, hR⟩ | ⟨z, hu, hz1, hth, hR⟩ | ⟨z, hu, hz1, hth, hR⟩
  · skip
    refine lv_aload_n hx hb dL_law_648 rfl (lv_at hl 1 rfl) ?_
    refine lv_aload_n hx hb dL_law_649 rfl (lv_at hl 0 rfl) ?_
    refine lv_iload hx hb dL_law_650 (lv_at hl 5 rfl) ?_
    refine lv_iconst (v := 1) hx hb dL_law_652 (by decide) ?_
    refine lv_iadd hx hb dL_law_653 ?_
    refine va_sld hx hb hX hbl hbA hw.2.2 h1 dL_law_654 ?_
    refine lv_topi (fun y ey => ?_)
    obtain rfl : y = p1 := ey.trans e1
    refine lv_aload_n hx hb dL_law_655 rfl (lv_at hl 3 rfl) ?_
    refine k_call (cs := [w10 cA cR a0 v, [(q3, .inl (cL, 1, .inr (.inl f3)))]]) (rs := [w11 cA a1 w, [(q4, .inl (cF, 1, .inr (.inr (.inr (.inl f4)))))]]) (cs1 := [w10 cA cR a0 u.2, [(q3, .inl (cL, 1, .inr (.inl (vp_updL f3 (0 : Int32).toNatClampNeg u.1.toInt64))))]]) (bs1 := [w10 cA cR a0 u.2, w11 cA a1 w, [(q3, .inl (cL, 1, .inr (.inl (vp_updL f3 (0 : Int32).toNatClampNeg u.1.toInt64))))], [(q4, .inl (cF, 1, .inr (.inr (.inr (.inl f4)))))]]) (rest := []) (st1 := [.int (0 : Int32)]) hw hA [0, 2] [1, 3] [2, 0, 3, 1] rfl rfl rfl rfl rfl (k_runL (nA := 3) (As := [.ref a0.1, .int p1, .ref q3]) (cs := [w10 cA cR a0 v, [(q3, .inl (cL, 1, .inr (.inl f3)))]]) (rs := [w11 cA a1 w, [(q4, .inl (cF, 1, .inr (.inr (.inr (.inl f4)))))]]) (rest := []) ⟨hx, hb, hml, hown, hts⟩ hz hzl hzx hw hA (mL_append l D cA cR cL cF  a0 v p1 q3 f3 u hu) gL_law_L_append rfl rfl rfl (by decide +kernel) rfl ⟨Nat.le_of_ble_eq_true rfl, Nat.le_of_ble_eq_true rfl⟩ hl.1 rfl (Nat.le_of_ble_eq_true rfl) dL_law_656 ⟨(by show _ ≤ 601024; omega), (by show _ ≤ 7293034; omega)⟩ [0, 2] [1, 3] rfl rfl rfl) rfl (fun H locs hw => ?_)
    refine lv_istore (lv' := [(6, .int (0 : Int32)), (0, .ref b), (1, .ref a0.1), (2, .ref a1.1), (3, .ref q3), (4, .ref q4), (5, .int x5)]) hx hb dL_law_659 hl (by decide) rfl (fun ls hl => ?_)
    refine lv_aload_n hx hb dL_law_661 rfl (lv_at hl 3 rfl) ?_
    refine lv_aload_n hx hb dL_law_662 rfl (lv_at hl 1 rfl) ?_
    refine lv_iload hx hb dL_law_663 (lv_at hl 6 rfl) ?_
    refine lv_iconst (v := 1) hx hb dL_law_665 (by decide) ?_
    refine lv_iadd hx hb dL_law_666 ?_
    refine va_sld hx hb hX hbl hbA hw.2.2 h1 dL_law_667 ?_
    refine lv_topi (fun y ey => ?_)
    obtain rfl : y = p1 := ey.trans e1
    refine k_callV (ci := 11) (C := RX11) (T := TX11) (N := 14) (nA := 1) (As := [.int p1]) (cs := [w11 cA a1 w]) (rs := [w10 cA cR a0 u.2, [(q3, .inl (cL, 1, .inr (.inl (vp_updL f3 (0 : Int32).toNatClampNeg u.1.toInt64))))], [(q4, .inl (cF, 1, .inr (.inr (.inr (.inl f4)))))]]) (cs1 := [w11 cA a1 z.2]) (bs1 := [w10 cA cR a0 u.2, w11 cA a1 z.2, [(q3, .inl (cL, 1, .inr (.inl (vp_updL f3 (0 : Int32).toNatClampNeg u.1.toInt64))))], [(q4, .inl (cF, 1, .inr (.inr (.inr (.inl f4)))))]]) (rest := []) (st1 := [.int z.1]) ⟨hx, hb, hml, hown, hts⟩ hz hw hA (mX11_append l D cA cR a1 w p1 z hz1) gL_law_X11_append rfl rfl rfl (by decide +kernel) rfl ⟨Nat.le_of_ble_eq_true rfl, Nat.le_of_ble_eq_true rfl⟩ rfl rfl hl.1 rfl (Nat.le_of_ble_eq_true rfl) dL_law_668 ⟨(by show _ ≤ 601024; omega), (by show _ ≤ 7293034; omega)⟩ [1] [0, 2, 3] [0, 3, 1, 2] rfl rfl rfl rfl rfl rfl (fun H locs hw => ?_)
    refine lv_istore (lv' := [(7, .int z.1), (6, .int (0 : Int32)), (0, .ref b), (1, .ref a0.1), (2, .ref a1.1), (3, .ref q3), (4, .ref q4), (5, .int x5)]) hx hb dL_law_671 hl (by decide) rfl (fun ls hl => ?_)
    refine lv_aload_n hx hb dL_law_673 rfl (lv_at hl 4 rfl) ?_
    refine k_callV (ci := 11) (C := RX11) (T := TX11) (N := 14) (nA := 0) (As := []) (cs := [w11 cA a1 z.2]) (rs := [w10 cA cR a0 u.2, [(q3, .inl (cL, 1, .inr (.inl (vp_updL f3 (0 : Int32).toNatClampNeg u.1.toInt64))))], [(q4, .inl (cF, 1, .inr (.inr (.inr (.inl f4)))))]]) (cs1 := [w11 cA a1 z.2]) (bs1 := [w10 cA cR a0 u.2, w11 cA a1 z.2, [(q3, .inl (cL, 1, .inr (.inl (vp_updL f3 (0 : Int32).toNatClampNeg u.1.toInt64))))], [(q4, .inl (cF, 1, .inr (.inr (.inr (.inl f4)))))]]) (rest := []) (st1 := [.int z.2.2.2.2.1]) ⟨hx, hb, hml, hown, hts⟩ hz hw hA (mX11_thrown l D cA cR a1 z.2 (z.2.2.2.2.1) rfl) gL_law_X11_thrown rfl rfl rfl (by decide +kernel) rfl ⟨Nat.le_of_ble_eq_true rfl, Nat.le_of_ble_eq_true rfl⟩ rfl rfl hl.1 rfl (Nat.le_of_ble_eq_true rfl) dL_law_674 ⟨(by show _ ≤ 601024; omega), (by show _ ≤ 7293034; omega)⟩ [1] [0, 2, 3] [0, 3, 1, 2] rfl rfl rfl rfl rfl rfl (fun H locs hw => ?_)
    refine lv_iload hx hb dL_law_677 (lv_at hl 1 rfl) ?_
    refine lv_icmp_eq (tgt := 684) hx hb dL_law_679 (by decide) (fun _ => ?_) (fun cc => absurd hth cc)
    refine lv_iload hx hb dL_law_684 (lv_at hl 1 rfl) ?_
    refine lv_if_ne (tgt := 701) hx hb dL_law_686 (by decide) (fun cc => absurd rfl cc) (fun _ => ?_)
    refine lv_aload_n hx hb dL_law_689 rfl (lv_at hl 5 rfl) ?_
    refine lv_iconst (v := 0) hx hb dL_law_690 (by decide) ?_
    refine k_lald hx hb hzl hw 2 rfl (by unfold vp_in; decide) dL_law_691 ?_
    refine lv_iload hx hb dL_law_692 (lv_at hl 0 rfl) ?_
    refine lv_i2l hx hb dL_law_694 rfl ?_
    refine W.lcmp hx hb dL_law_695 ?_
    refine lv_if_eq (tgt := 701) hx hb dL_law_696 (by decide) (fun _ => ?_) (fun cc => absurd (lcmp_same (by rw [← hret]; exact pk_uLs)) cc)
    refine lv_goto (tgt := 1547) hx hb dL_law_701 (by decide) ?_
    refine W.widen (k := k0 + 1) (n := s0 + 6) (by omega) (by omega) ?_
    exact kk u.2 z.2 (vp_updL f3 (0 : Int32).toNatClampNeg u.1.toInt64) f4 _ _ _ hR hw (lv_sub hl [2, 3, 4, 5, 6, 7] rfl)
  · skip
    refine lv_aload_n hx hb dL_law_648 rfl (lv_at hl 1 rfl) ?_
    refine lv_aload_n hx hb dL_law_649 rfl (lv_at hl 0 rfl) ?_
    refine lv_iload hx hb dL_law_650 (lv_at hl 5 rfl) ?_
    refine lv_iconst (v := 1) hx hb dL_law_652 (by decide) ?_
    refine lv_iadd hx hb dL_law_653 ?_
    refine va_sld hx hb hX hbl hbA hw.2.2 h1 dL_law_654 ?_
    refine lv_topi (fun y ey => ?_)
    obtain rfl : y = p1 := ey.trans e1
    refine lv_aload_n hx hb dL_law_655 rfl (lv_at hl 3 rfl) ?_
    refine k_call (cs := [w10 cA cR a0 v, [(q3, .inl (cL, 1, .inr (.inl f3)))]]) (rs := [w11 cA a1 w, [(q4, .inl (cF, 1, .inr (.inr (.inr (.inl f4)))))]]) (cs1 := [w10 cA cR a0 v, [(q3, .inl (cL, 1, .inr (.inl f3)))]]) (bs1 := [w10 cA cR a0 v, w11 cA a1 w, [(q3, .inl (cL, 1, .inr (.inl f3)))], [(q4, .inl (cF, 1, .inr (.inr (.inr (.inl f4)))))]]) (rest := []) (st1 := [.int (1 : Int32)]) hw hA [0, 2] [1, 3] [2, 0, 3, 1] rfl rfl rfl rfl rfl (k_runL (nA := 3) (As := [.ref a0.1, .int p1, .ref q3]) (cs := [w10 cA cR a0 v, [(q3, .inl (cL, 1, .inr (.inl f3)))]]) (rs := [w11 cA a1 w, [(q4, .inl (cF, 1, .inr (.inr (.inr (.inl f4)))))]]) (rest := []) ⟨hx, hb, hml, hown, hts⟩ hz hzl hzx hw hA (t0L_append l hlt D cA cR cL cF  a0 v p1 q3 f3 hu) gL_law_L_append rfl rfl rfl (by decide +kernel) rfl ⟨Nat.le_of_ble_eq_true rfl, Nat.le_of_ble_eq_true rfl⟩ hl.1 rfl (Nat.le_of_ble_eq_true rfl) dL_law_656 ⟨(by show _ ≤ 601024; omega), (by show _ ≤ 7293034; omega)⟩ [0, 2] [1, 3] rfl rfl rfl) rfl (fun H locs hw => ?_)
    refine lv_istore (lv' := [(6, .int (1 : Int32)), (0, .ref b), (1, .ref a0.1), (2, .ref a1.1), (3, .ref q3), (4, .ref q4), (5, .int x5)]) hx hb dL_law_659 hl (by decide) rfl (fun ls hl => ?_)
    refine lv_aload_n hx hb dL_law_661 rfl (lv_at hl 3 rfl) ?_
    refine lv_aload_n hx hb dL_law_662 rfl (lv_at hl 1 rfl) ?_
    refine lv_iload hx hb dL_law_663 (lv_at hl 6 rfl) ?_
    refine lv_iconst (v := 1) hx hb dL_law_665 (by decide) ?_
    refine lv_iadd hx hb dL_law_666 ?_
    refine va_sld hx hb hX hbl hbA hw.2.2 h1 dL_law_667 ?_
    refine lv_topi (fun y ey => ?_)
    obtain rfl : y = p1 := ey.trans e1
    refine k_callV (ci := 11) (C := RX11) (T := TX11) (N := 14) (nA := 1) (As := [.int p1]) (cs := [w11 cA a1 w]) (rs := [w10 cA cR a0 v, [(q3, .inl (cL, 1, .inr (.inl f3)))], [(q4, .inl (cF, 1, .inr (.inr (.inr (.inl f4)))))]]) (cs1 := [w11 cA a1 z.2]) (bs1 := [w10 cA cR a0 v, w11 cA a1 z.2, [(q3, .inl (cL, 1, .inr (.inl f3)))], [(q4, .inl (cF, 1, .inr (.inr (.inr (.inl f4)))))]]) (rest := []) (st1 := [.int z.1]) ⟨hx, hb, hml, hown, hts⟩ hz hw hA (mX11_append l D cA cR a1 w p1 z hz1) gL_law_X11_append rfl rfl rfl (by decide +kernel) rfl ⟨Nat.le_of_ble_eq_true rfl, Nat.le_of_ble_eq_true rfl⟩ rfl rfl hl.1 rfl (Nat.le_of_ble_eq_true rfl) dL_law_668 ⟨(by show _ ≤ 601024; omega), (by show _ ≤ 7293034; omega)⟩ [1] [0, 2, 3] [0, 3, 1, 2] rfl rfl rfl rfl rfl rfl (fun H locs hw => ?_)
    refine lv_istore (lv' := [(7, .int z.1), (6, .int (1 : Int32)), (0, .ref b), (1, .ref a0.1), (2, .ref a1.1), (3, .ref q3), (4, .ref q4), (5, .int x5)]) hx hb dL_law_671 hl (by decide) rfl (fun ls hl => ?_)
    refine lv_aload_n hx hb dL_law_673 rfl (lv_at hl 4 rfl) ?_
    refine k_callV (ci := 11) (C := RX11) (T := TX11) (N := 14) (nA := 0) (As := []) (cs := [w11 cA a1 z.2]) (rs := [w10 cA cR a0 v, [(q3, .inl (cL, 1, .inr (.inl f3)))], [(q4, .inl (cF, 1, .inr (.inr (.inr (.inl f4)))))]]) (cs1 := [w11 cA a1 z.2]) (bs1 := [w10 cA cR a0 v, w11 cA a1 z.2, [(q3, .inl (cL, 1, .inr (.inl f3)))], [(q4, .inl (cF, 1, .inr (.inr (.inr (.inl f4)))))]]) (rest := []) (st1 := [.int z.2.2.2.2.1]) ⟨hx, hb, hml, hown, hts⟩ hz hw hA (mX11_thrown l D cA cR a1 z.2 (z.2.2.2.2.1) rfl) gL_law_X11_thrown rfl rfl rfl (by decide +kernel) rfl ⟨Nat.le_of_ble_eq_true rfl, Nat.le_of_ble_eq_true rfl⟩ rfl rfl hl.1 rfl (Nat.le_of_ble_eq_true rfl) dL_law_674 ⟨(by show _ ≤ 601024; omega), (by show _ ≤ 7293034; omega)⟩ [1] [0, 2, 3] [0, 3, 1, 2] rfl rfl rfl rfl rfl rfl (fun H locs hw => ?_)
    refine lv_iload hx hb dL_law_677 (lv_at hl 1 rfl) ?_
    refine lv_icmp_eq (tgt := 684) hx hb dL_law_679 (by decide) (fun _ => ?_) (fun cc => absurd hth cc)
    refine lv_iload hx hb dL_law_684 (lv_at hl 1 rfl) ?_
    refine lv_if_ne (tgt := 701) hx hb dL_law_686 (by decide) (fun _ => ?_) (fun cc => absurd cc (by decide))
    refine lv_goto (tgt := 1547) hx hb dL_law_701 (by decide) ?_
    refine W.widen (k := k0 + 1) (n := s0 + 6) (by omega) (by omega) ?_
    exact kk v z.2 f3 f4 _ _ _ hR hw (lv_sub hl [2, 3, 4, 5, 6, 7] rfl)
  · skip
    refine lv_aload_n hx hb dL_law_648 rfl (lv_at hl 1 rfl) ?_
    refine lv_aload_n hx hb dL_law_649 rfl (lv_at hl 0 rfl) ?_
    refine lv_iload hx hb dL_law_650 (lv_at hl 5 rfl) ?_
    refine lv_iconst (v := 1) hx hb dL_law_652 (by decide) ?_
    refine lv_iadd hx hb dL_law_653 ?_
    refine va_sld hx hb hX hbl hbA hw.2.2 h1 dL_law_654 ?_
    refine lv_topi (fun y ey => ?_)
    obtain rfl : y = p1 := ey.trans e1
    refine lv_aload_n hx hb dL_law_655 rfl (lv_at hl 3 rfl) ?_
    refine k_call (cs := [w10 cA cR a0 v, [(q3, .inl (cL, 1, .inr (.inl f3)))]]) (rs := [w11 cA a1 w, [(q4, .inl (cF, 1, .inr (.inr (.inr (.inl f4)))))]]) (cs1 := [w10 cA cR a0 v, [(q3, .inl (cL, 1, .inr (.inl f3)))]]) (bs1 := [w10 cA cR a0 v, w11 cA a1 w, [(q3, .inl (cL, 1, .inr (.inl f3)))], [(q4, .inl (cF, 1, .inr (.inr (.inr (.inl f4)))))]]) (rest := []) (st1 := [.int (2 : Int32)]) hw hA [0, 2] [1, 3] [2, 0, 3, 1] rfl rfl rfl rfl rfl (k_runL (nA := 3) (As := [.ref a0.1, .int p1, .ref q3]) (cs := [w10 cA cR a0 v, [(q3, .inl (cL, 1, .inr (.inl f3)))]]) (rs := [w11 cA a1 w, [(q4, .inl (cF, 1, .inr (.inr (.inr (.inl f4)))))]]) (rest := []) ⟨hx, hb, hml, hown, hts⟩ hz hzl hzx hw hA (t1L_append l hlt D cA cR cL cF  a0 v p1 q3 f3 hu) gL_law_L_append rfl rfl rfl (by decide +kernel) rfl ⟨Nat.le_of_ble_eq_true rfl, Nat.le_of_ble_eq_true rfl⟩ hl.1 rfl (Nat.le_of_ble_eq_true rfl) dL_law_656 ⟨(by show _ ≤ 601024; omega), (by show _ ≤ 7293034; omega)⟩ [0, 2] [1, 3] rfl rfl rfl) rfl (fun H locs hw => ?_)
    refine lv_istore (lv' := [(6, .int (2 : Int32)), (0, .ref b), (1, .ref a0.1), (2, .ref a1.1), (3, .ref q3), (4, .ref q4), (5, .int x5)]) hx hb dL_law_659 hl (by decide) rfl (fun ls hl => ?_)
    refine lv_aload_n hx hb dL_law_661 rfl (lv_at hl 3 rfl) ?_
    refine lv_aload_n hx hb dL_law_662 rfl (lv_at hl 1 rfl) ?_
    refine lv_iload hx hb dL_law_663 (lv_at hl 6 rfl) ?_
    refine lv_iconst (v := 1) hx hb dL_law_665 (by decide) ?_
    refine lv_iadd hx hb dL_law_666 ?_
    refine va_sld hx hb hX hbl hbA hw.2.2 h1 dL_law_667 ?_
    refine lv_topi (fun y ey => ?_)
    obtain rfl : y = p1 := ey.trans e1
    refine k_callV (ci := 11) (C := RX11) (T := TX11) (N := 14) (nA := 1) (As := [.int p1]) (cs := [w11 cA a1 w]) (rs := [w10 cA cR a0 v, [(q3, .inl (cL, 1, .inr (.inl f3)))], [(q4, .inl (cF, 1, .inr (.inr (.inr (.inl f4)))))]]) (cs1 := [w11 cA a1 z.2]) (bs1 := [w10 cA cR a0 v, w11 cA a1 z.2, [(q3, .inl (cL, 1, .inr (.inl f3)))], [(q4, .inl (cF, 1, .inr (.inr (.inr (.inl f4)))))]]) (rest := []) (st1 := [.int z.1]) ⟨hx, hb, hml, hown, hts⟩ hz hw hA (mX11_append l D cA cR a1 w p1 z hz1) gL_law_X11_append rfl rfl rfl (by decide +kernel) rfl ⟨Nat.le_of_ble_eq_true rfl, Nat.le_of_ble_eq_true rfl⟩ rfl rfl hl.1 rfl (Nat.le_of_ble_eq_true rfl) dL_law_668 ⟨(by show _ ≤ 601024; omega), (by show _ ≤ 7293034; omega)⟩ [1] [0, 2, 3] [0, 3, 1, 2] rfl rfl rfl rfl rfl rfl (fun H locs hw => ?_)
    refine lv_istore (lv' := [(7, .int z.1), (6, .int (2 : Int32)), (0, .ref b), (1, .ref a0.1), (2, .ref a1.1), (3, .ref q3), (4, .ref q4), (5, .int x5)]) hx hb dL_law_671 hl (by decide) rfl (fun ls hl => ?_)
    refine lv_aload_n hx hb dL_law_673 rfl (lv_at hl 4 rfl) ?_
    refine k_callV (ci := 11) (C := RX11) (T := TX11) (N := 14) (nA := 0) (As := []) (cs := [w11 cA a1 z.2]) (rs := [w10 cA cR a0 v, [(q3, .inl (cL, 1, .inr (.inl f3)))], [(q4, .inl (cF, 1, .inr (.inr (.inr (.inl f4)))))]]) (cs1 := [w11 cA a1 z.2]) (bs1 := [w10 cA cR a0 v, w11 cA a1 z.2, [(q3, .inl (cL, 1, .inr (.inl f3)))], [(q4, .inl (cF, 1, .inr (.inr (.inr (.inl f4)))))]]) (rest := []) (st1 := [.int z.2.2.2.2.1]) ⟨hx, hb, hml, hown, hts⟩ hz hw hA (mX11_thrown l D cA cR a1 z.2 (z.2.2.2.2.1) rfl) gL_law_X11_thrown rfl rfl rfl (by decide +kernel) rfl ⟨Nat.le_of_ble_eq_true rfl, Nat.le_of_ble_eq_true rfl⟩ rfl rfl hl.1 rfl (Nat.le_of_ble_eq_true rfl) dL_law_674 ⟨(by show _ ≤ 601024; omega), (by show _ ≤ 7293034; omega)⟩ [1] [0, 2, 3] [0, 3, 1, 2] rfl rfl rfl rfl rfl rfl (fun H locs hw => ?_)
    refine lv_iload hx hb dL_law_677 (lv_at hl 1 rfl) ?_
    refine lv_icmp_eq (tgt := 684) hx hb dL_law_679 (by decide) (fun _ => ?_) (fun cc => absurd hth cc)
    refine lv_iload hx hb dL_law_684 (lv_at hl 1 rfl) ?_
    refine lv_if_ne (tgt := 701) hx hb dL_law_686 (by decide) (fun _ => ?_) (fun cc => absurd cc (by decide))
    refine lv_goto (tgt := 1547) hx hb dL_law_701 (by decide) ?_
    refine W.widen (k := k0 + 1) (n := s0 + 6) (by omega) (by omega) ?_
    exact kk v z.2 f3 f4 _ _ _ hR hw (lv_sub hl [2, 3, 4, 5, 6, 7] rfl)
