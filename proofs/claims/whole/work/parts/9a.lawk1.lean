set_option maxHeartbeats 4000000 in
set_option maxRecDepth 100000 in
theorem lk_9 {p : Program} {l : Launch} {e : Env} {s : State} {m : MethodId} {below : List Frame} {meth : Method} {c : Code} {D : va_G} {cA cR cL cF : ClassId} {b L : Nat} {xs : Nat → Int32} {RR : Nat → V10 → V11 → Prop} {N : Nat} (hpu : PU_steps RR N) (X : LX p l s m c b L xs D cA cR cL cF) {k0 s0 : Nat} (hk0 : k0 + 1 ≤ 601024) (hs0 : s0 + 6 ≤ 7293034) {cn : Nat} (hcn : cn < 512) {x5 : Int32} {v : V10} {w : V11} {a0 : A10} {a1 : A11} {q3 q4 : Nat} {f3 : Nat → Int64} {f4 : Nat → UInt64} {H : Heap} {locs : List Loc} {ls : Array Slot} {Q : State → Prop} (hR : RR cn v w) (hw : ww (fun q : Nat => s.heap.size ≤ q) s.heap D [w10 cA cR a0 v, w11 cA a1 w, [(q3, .inl (cL, 1, .inr (.inl f3)))], [(q4, .inl (cF, 1, .inr (.inr (.inr (.inl f4)))))]] H locs) (hl : lv_has ls 9 [(0, .ref b), (1, .ref a0.1), (2, .ref a1.1), (3, .ref q3), (4, .ref q4), (5, .int x5)])
    (kk : ∀ (v : V10) (w : V11) (f3 : Nat → Int64) (f4 : Nat → UInt64) (H : Heap) (locs : List Loc) (ls : Array Slot), RR (cn + 1) v w → ww (fun q : Nat => s.heap.size ≤ q) s.heap D [w10 cA cR a0 v, w11 cA a1 w, [(q3, .inl (cL, 1, .inr (.inl f3)))], [(q4, .inl (cF, 1, .inr (.inr (.inr (.inl f4)))))]] H locs → lv_has ls 9 [(0, .ref b), (1, .ref a0.1), (2, .ref a1.1), (3, .ref q3), (4, .ref q4), (5, .int x5)] → W p l e room_1 s m #[Value.ref b] below meth c H locs (k0 + 1) (s0 + 6) Q (F0 m 1547 ls [])) : W p l e room_1 s m #[Value.ref b] below meth c H locs k0 s0 Q (F0 m 730 ls []) := by
  obtain ⟨hx, hb, hml, hown, hts, hX, hbl, hz, hzl, hzx, hlt⟩ := X
  have hA : ∀ q : Nat, s.heap.size ≤ q → (fun q : Nat => s.heap.size ≤ q) q := fun _ h => h
  have hbA : ¬ (fun q : Nat => s.heap.size ≤ q) b := Nat.not_le.mpr hbl
  obtain ⟨u, z, hu, hz1, hret, hR⟩ := hpu cn v w hcn hR
  refine lv_aload_n hx hb dL_law_730 rfl (lv_at hl 1 rfl) ?_
  refine k_callV (ci := 10) (C := RX10) (T := TX10) (N := 7) (nA := 0) (As := []) (cs := [w10 cA cR a0 v]) (rs := [w11 cA a1 w, [(q3, .inl (cL, 1, .inr (.inl f3)))], [(q4, .inl (cF, 1, .inr (.inr (.inr (.inl f4)))))]]) (cs1 := [w10 cA cR a0 v]) (bs1 := [w10 cA cR a0 v, w11 cA a1 w, [(q3, .inl (cL, 1, .inr (.inl f3)))], [(q4, .inl (cF, 1, .inr (.inr (.inr (.inl f4)))))]]) (rest := []) (st1 := [.int u]) ⟨hx, hb, hml, hown, hts⟩ hz hw hA (mX10_steps l D cA cR a0 v u hu) gL_law_X10_steps rfl rfl rfl (by decide +kernel) rfl ⟨Nat.le_of_ble_eq_true rfl, Nat.le_of_ble_eq_true rfl⟩ rfl rfl hl.1 rfl (Nat.le_of_ble_eq_true rfl) dL_law_731 ⟨(by show _ ≤ 601024; omega), (by show _ ≤ 7293034; omega)⟩ [0] [1, 2, 3] [3, 0, 1, 2] rfl rfl rfl rfl rfl rfl (fun H locs hw => ?_)
  refine lv_aload_n hx hb dL_law_734 rfl (lv_at hl 2 rfl) ?_
  refine k_callV (ci := 11) (C := RX11) (T := TX11) (N := 14) (nA := 0) (As := []) (cs := [w11 cA a1 w]) (rs := [w10 cA cR a0 v, [(q3, .inl (cL, 1, .inr (.inl f3)))], [(q4, .inl (cF, 1, .inr (.inr (.inr (.inl f4)))))]]) (cs1 := [w11 cA a1 z.2]) (bs1 := [w10 cA cR a0 v, w11 cA a1 z.2, [(q3, .inl (cL, 1, .inr (.inl f3)))], [(q4, .inl (cF, 1, .inr (.inr (.inr (.inl f4)))))]]) (rest := [.int u]) (st1 := [.int z.1, .int u]) ⟨hx, hb, hml, hown, hts⟩ hz hw hA (mX11_steps l D cA cR a1 w z hz1) gL_law_X11_steps rfl rfl rfl (by decide +kernel) rfl ⟨Nat.le_of_ble_eq_true rfl, Nat.le_of_ble_eq_true rfl⟩ rfl rfl hl.1 rfl (Nat.le_of_ble_eq_true rfl) dL_law_735 ⟨(by show _ ≤ 601024; omega), (by show _ ≤ 7293034; omega)⟩ [1] [0, 2, 3] [0, 3, 1, 2] rfl rfl rfl rfl rfl rfl (fun H locs hw => ?_)
  refine lv_icmp_eq (tgt := 1547) hx hb dL_law_738 (by decide) (fun _ => ?_) (fun cc => absurd hret cc)
  refine W.widen (k := k0 + 1) (n := s0 + 6) (by omega) (by omega) ?_
  exact kk v z.2 f3 f4 _ _ _ hR hw hl
set_option maxHeartbeats 4000000 in
set_option maxRecDepth 100000 in
theorem lk_10 {p : Program} {l : Launch} {e : Env} {s : State} {m : MethodId} {below : List Frame} {meth : Method} {c : Code} {D : va_G} {cA cR cL cF : ClassId} {b L : Nat} {xs : Nat → Int32} {RR : Nat → V10 → V11 → Prop} {N : Nat} (hpu : PU_step RR N) (X : LX p l s m c b L xs D cA cR cL cF) {k0 s0 : Nat} (hk0 : k0 + 1 ≤ 601024) (hs0 : s0 + 6 ≤ 7293034) {cn : Nat} (hcn : cn < 512) {x5 : Int32} {p1 : Int32} (h1 : vp_in (x5 + 1) L) (e1 : xs (x5 + 1).toNatClampNeg = p1) {p2 : Int32} (h2 : vp_in (x5 + 2) L) (e2 : xs (x5 + 2).toNatClampNeg = p2) {v : V10} {w : V11} {a0 : A10} {a1 : A11} {q3 q4 : Nat} {f3 : Nat → Int64} {f4 : Nat → UInt64} {H : Heap} {locs : List Loc} {ls : Array Slot} {Q : State → Prop} (hR : RR cn v w) (hw : ww (fun q : Nat => s.heap.size ≤ q) s.heap D [w10 cA cR a0 v, w11 cA a1 w, [(q3, .inl (cL, 1, .inr (.inl f3)))], [(q4, .inl (cF, 1, .inr (.inr (.inr (.inl f4)))))]] H locs) (hl : lv_has ls 9 [(0, .ref b), (1, .ref a0.1), (2, .ref a1.1), (3, .ref q3), (4, .ref q4), (5, .int x5)])
    (kk : ∀ (v : V10) (w : V11) (f3 : Nat → Int64) (f4 : Nat → UInt64) (H : Heap) (locs : List Loc) (ls : Array Slot), RR (cn + 1) v w → ww (fun q : Nat => s.heap.size ≤ q) s.heap D [w10 cA cR a0 v, w11 cA a1 w, [(q3, .inl (cL, 1, .inr (.inl f3)))], [(q4, .inl (cF, 1, .inr (.inr (.inr (.inl f4)))))]] H locs → lv_has ls 9 [(0, .ref b), (1, .ref a0.1), (2, .ref a1.1), (3, .ref q3), (4, .ref q4), (5, .int x5)] → W p l e room_1 s m #[Value.ref b] below meth c H locs (k0 + 1) (s0 + 6) Q (F0 m 1547 ls [])) : W p l e room_1 s m #[Value.ref b] below meth c H locs k0 s0 Q (F0 m 743 ls []) := by
  obtain ⟨hx, hb, hml, hown, hts, hX, hbl, hz, hzl, hzx, hlt⟩ := X
  have hA : ∀ q : Nat, s.heap.size ≤ q → (fun q : Nat => s.heap.size ≤ q) q := fun _ h => h
  have hbA : ¬ (fun q : Nat => s.heap.size ≤ q) b := Nat.not_le.mpr hbl
  rcases hpu cn v w p1 p2 hcn hR with ⟨u, z, hu, hz1, hth, hret, hR⟩ | ⟨z, hu, hz1, hth, hR⟩ | ⟨z, hu, hz1, hth, hR⟩
  · skip
    refine lv_aload_n hx hb dL_law_743 rfl (lv_at hl 1 rfl) ?_
    refine lv_aload_n hx hb dL_law_744 rfl (lv_at hl 0 rfl) ?_
    refine lv_iload hx hb dL_law_745 (lv_at hl 5 rfl) ?_
    refine lv_iconst (v := 1) hx hb dL_law_747 (by decide) ?_
    refine lv_iadd hx hb dL_law_748 ?_
    refine va_sld hx hb hX hbl hbA hw.2.2 h1 dL_law_749 ?_
    refine lv_topi (fun y ey => ?_)
    obtain rfl : p1 = y := (ey.trans e1).symm
    refine lv_aload_n hx hb dL_law_750 rfl (lv_at hl 0 rfl) ?_
    refine lv_iload hx hb dL_law_751 (lv_at hl 5 rfl) ?_
    refine lv_iconst (v := 2) hx hb dL_law_753 (by decide) ?_
    refine lv_iadd hx hb dL_law_754 ?_
    refine va_sld hx hb hX hbl hbA hw.2.2 h2 dL_law_755 ?_
    refine lv_topi (fun y ey => ?_)
    obtain rfl : p2 = y := (ey.trans e2).symm
    refine lv_aload_n hx hb dL_law_756 rfl (lv_at hl 3 rfl) ?_
    refine k_call (cs := [w10 cA cR a0 v, [(q3, .inl (cL, 1, .inr (.inl f3)))]]) (rs := [w11 cA a1 w, [(q4, .inl (cF, 1, .inr (.inr (.inr (.inl f4)))))]]) (cs1 := [w10 cA cR a0 v, [(q3, .inl (cL, 1, .inr (.inl (vp_updL f3 (0 : Int32).toNatClampNeg u.toInt64))))]]) (bs1 := [w10 cA cR a0 v, w11 cA a1 w, [(q3, .inl (cL, 1, .inr (.inl (vp_updL f3 (0 : Int32).toNatClampNeg u.toInt64))))], [(q4, .inl (cF, 1, .inr (.inr (.inr (.inl f4)))))]]) (rest := []) (st1 := [.int (0 : Int32)]) hw hA [0, 2] [1, 3] [2, 0, 3, 1] rfl rfl rfl rfl rfl (k_runL (nA := 4) (As := [.ref a0.1, .int p1, .int p2, .ref q3]) (cs := [w10 cA cR a0 v, [(q3, .inl (cL, 1, .inr (.inl f3)))]]) (rs := [w11 cA a1 w, [(q4, .inl (cF, 1, .inr (.inr (.inr (.inl f4)))))]]) (rest := []) ⟨hx, hb, hml, hown, hts⟩ hz hzl hzx hw hA (mL_step l D cA cR cL cF  a0 v p1 p2 q3 f3 u hu) gL_law_L_step rfl rfl rfl (by decide +kernel) rfl ⟨Nat.le_of_ble_eq_true rfl, Nat.le_of_ble_eq_true rfl⟩ hl.1 rfl (Nat.le_of_ble_eq_true rfl) dL_law_757 ⟨(by show _ ≤ 601024; omega), (by show _ ≤ 7293034; omega)⟩ [0, 2] [1, 3] rfl rfl rfl) rfl (fun H locs hw => ?_)
    refine lv_istore (lv' := [(6, .int (0 : Int32)), (0, .ref b), (1, .ref a0.1), (2, .ref a1.1), (3, .ref q3), (4, .ref q4), (5, .int x5)]) hx hb dL_law_760 hl (by decide) rfl (fun ls hl => ?_)
    refine lv_aload_n hx hb dL_law_762 rfl (lv_at hl 3 rfl) ?_
    refine lv_aload_n hx hb dL_law_763 rfl (lv_at hl 1 rfl) ?_
    refine lv_iload hx hb dL_law_764 (lv_at hl 6 rfl) ?_
    refine lv_iconst (v := 1) hx hb dL_law_766 (by decide) ?_
    refine lv_iadd hx hb dL_law_767 ?_
    refine va_sld hx hb hX hbl hbA hw.2.2 h1 dL_law_768 ?_
    refine lv_topi (fun y ey => ?_)
    obtain rfl : p1 = y := (ey.trans e1).symm
    refine lv_aload_n hx hb dL_law_769 rfl (lv_at hl 1 rfl) ?_
    refine lv_iload hx hb dL_law_770 (lv_at hl 6 rfl) ?_
    refine lv_iconst (v := 2) hx hb dL_law_772 (by decide) ?_
    refine lv_iadd hx hb dL_law_773 ?_
    refine va_sld hx hb hX hbl hbA hw.2.2 h2 dL_law_774 ?_
    refine lv_topi (fun y ey => ?_)
    obtain rfl : p2 = y := (ey.trans e2).symm
    refine k_callV (ci := 11) (C := RX11) (T := TX11) (N := 14) (nA := 2) (As := [.int p1, .int p2]) (cs := [w11 cA a1 w]) (rs := [w10 cA cR a0 v, [(q3, .inl (cL, 1, .inr (.inl (vp_updL f3 (0 : Int32).toNatClampNeg u.toInt64))))], [(q4, .inl (cF, 1, .inr (.inr (.inr (.inl f4)))))]]) (cs1 := [w11 cA a1 z.2]) (bs1 := [w10 cA cR a0 v, w11 cA a1 z.2, [(q3, .inl (cL, 1, .inr (.inl (vp_updL f3 (0 : Int32).toNatClampNeg u.toInt64))))], [(q4, .inl (cF, 1, .inr (.inr (.inr (.inl f4)))))]]) (rest := []) (st1 := [.int z.1]) ⟨hx, hb, hml, hown, hts⟩ hz hw hA (mX11_step l D cA cR a1 w p1 p2 z hz1) gL_law_X11_step rfl rfl rfl (by decide +kernel) rfl ⟨Nat.le_of_ble_eq_true rfl, Nat.le_of_ble_eq_true rfl⟩ rfl rfl hl.1 rfl (Nat.le_of_ble_eq_true rfl) dL_law_775 ⟨(by show _ ≤ 601024; omega), (by show _ ≤ 7293034; omega)⟩ [1] [0, 2, 3] [0, 3, 1, 2] rfl rfl rfl rfl rfl rfl (fun H locs hw => ?_)
    refine lv_istore (lv' := [(7, .int z.1), (6, .int (0 : Int32)), (0, .ref b), (1, .ref a0.1), (2, .ref a1.1), (3, .ref q3), (4, .ref q4), (5, .int x5)]) hx hb dL_law_778 hl (by decide) rfl (fun ls hl => ?_)
    refine lv_aload_n hx hb dL_law_780 rfl (lv_at hl 4 rfl) ?_
    refine k_callV (ci := 11) (C := RX11) (T := TX11) (N := 14) (nA := 0) (As := []) (cs := [w11 cA a1 z.2]) (rs := [w10 cA cR a0 v, [(q3, .inl (cL, 1, .inr (.inl (vp_updL f3 (0 : Int32).toNatClampNeg u.toInt64))))], [(q4, .inl (cF, 1, .inr (.inr (.inr (.inl f4)))))]]) (cs1 := [w11 cA a1 z.2]) (bs1 := [w10 cA cR a0 v, w11 cA a1 z.2, [(q3, .inl (cL, 1, .inr (.inl (vp_updL f3 (0 : Int32).toNatClampNeg u.toInt64))))], [(q4, .inl (cF, 1, .inr (.inr (.inr (.inl f4)))))]]) (rest := []) (st1 := [.int z.2.2.2.2.1]) ⟨hx, hb, hml, hown, hts⟩ hz hw hA (mX11_thrown l D cA cR a1 z.2 (z.2.2.2.2.1) rfl) gL_law_X11_thrown rfl rfl rfl (by decide +kernel) rfl ⟨Nat.le_of_ble_eq_true rfl, Nat.le_of_ble_eq_true rfl⟩ rfl rfl hl.1 rfl (Nat.le_of_ble_eq_true rfl) dL_law_781 ⟨(by show _ ≤ 601024; omega), (by show _ ≤ 7293034; omega)⟩ [1] [0, 2, 3] [0, 3, 1, 2] rfl rfl rfl rfl rfl rfl (fun H locs hw => ?_)
    refine lv_iload hx hb dL_law_784 (lv_at hl 1 rfl) ?_
    refine lv_icmp_eq (tgt := 791) hx hb dL_law_786 (by decide) (fun _ => ?_) (fun cc => absurd hth cc)
    refine lv_iload hx hb dL_law_791 (lv_at hl 1 rfl) ?_
    refine lv_if_ne (tgt := 808) hx hb dL_law_793 (by decide) (fun cc => absurd rfl cc) (fun _ => ?_)
    refine lv_aload_n hx hb dL_law_796 rfl (lv_at hl 5 rfl) ?_
    refine lv_iconst (v := 0) hx hb dL_law_797 (by decide) ?_
    refine k_lald hx hb hzl hw 2 rfl (by unfold vp_in; decide) dL_law_798 ?_
    refine lv_iload hx hb dL_law_799 (lv_at hl 0 rfl) ?_
    refine lv_i2l hx hb dL_law_801 rfl ?_
    refine W.lcmp hx hb dL_law_802 ?_
    refine lv_if_eq (tgt := 808) hx hb dL_law_803 (by decide) (fun _ => ?_) (fun cc => absurd (lcmp_same (by rw [← hret]; exact pk_uLs)) cc)
    refine lv_goto (tgt := 1547) hx hb dL_law_808 (by decide) ?_
    refine W.widen (k := k0 + 1) (n := s0 + 6) (by omega) (by omega) ?_
    exact kk v z.2 (vp_updL f3 (0 : Int32).toNatClampNeg u.toInt64) f4 _ _ _ hR hw (lv_sub hl [2, 3, 4, 5, 6, 7] rfl)
  · skip
    refine lv_aload_n hx hb dL_law_743 rfl (lv_at hl 1 rfl) ?_
    refine lv_aload_n hx hb dL_law_744 rfl (lv_at hl 0 rfl) ?_
    refine lv_iload hx hb dL_law_745 (lv_at hl 5 rfl) ?_
    refine lv_iconst (v := 1) hx hb dL_law_747 (by decide) ?_
    refine lv_iadd hx hb dL_law_748 ?_
    refine va_sld hx hb hX hbl hbA hw.2.2 h1 dL_law_749 ?_
    refine lv_topi (fun y ey => ?_)
    obtain rfl : p1 = y := (ey.trans e1).symm
    refine lv_aload_n hx hb dL_law_750 rfl (lv_at hl 0 rfl) ?_
    refine lv_iload hx hb dL_law_751 (lv_at hl 5 rfl) ?_
    refine lv_iconst (v := 2) hx hb dL_law_753 (by decide) ?_
    refine lv_iadd hx hb dL_law_754 ?_
    refine va_sld hx hb hX hbl hbA hw.2.2 h2 dL_law_755 ?_
    refine lv_topi (fun y ey => ?_)
    obtain rfl : p2 = y := (ey.trans e2).symm
    refine lv_aload_n hx hb dL_law_756 rfl (lv_at hl 3 rfl) ?_
    refine k_call (cs := [w10 cA cR a0 v, [(q3, .inl (cL, 1, .inr (.inl f3)))]]) (rs := [w11 cA a1 w, [(q4, .inl (cF, 1, .inr (.inr (.inr (.inl f4)))))]]) (cs1 := [w10 cA cR a0 v, [(q3, .inl (cL, 1, .inr (.inl f3)))]]) (bs1 := [w10 cA cR a0 v, w11 cA a1 w, [(q3, .inl (cL, 1, .inr (.inl f3)))], [(q4, .inl (cF, 1, .inr (.inr (.inr (.inl f4)))))]]) (rest := []) (st1 := [.int (1 : Int32)]) hw hA [0, 2] [1, 3] [2, 0, 3, 1] rfl rfl rfl rfl rfl (k_runL (nA := 4) (As := [.ref a0.1, .int p1, .int p2, .ref q3]) (cs := [w10 cA cR a0 v, [(q3, .inl (cL, 1, .inr (.inl f3)))]]) (rs := [w11 cA a1 w, [(q4, .inl (cF, 1, .inr (.inr (.inr (.inl f4)))))]]) (rest := []) ⟨hx, hb, hml, hown, hts⟩ hz hzl hzx hw hA (t0L_step l hlt D cA cR cL cF  a0 v p1 p2 q3 f3 hu) gL_law_L_step rfl rfl rfl (by decide +kernel) rfl ⟨Nat.le_of_ble_eq_true rfl, Nat.le_of_ble_eq_true rfl⟩ hl.1 rfl (Nat.le_of_ble_eq_true rfl) dL_law_757 ⟨(by show _ ≤ 601024; omega), (by show _ ≤ 7293034; omega)⟩ [0, 2] [1, 3] rfl rfl rfl) rfl (fun H locs hw => ?_)
    refine lv_istore (lv' := [(6, .int (1 : Int32)), (0, .ref b), (1, .ref a0.1), (2, .ref a1.1), (3, .ref q3), (4, .ref q4), (5, .int x5)]) hx hb dL_law_760 hl (by decide) rfl (fun ls hl => ?_)
    refine lv_aload_n hx hb dL_law_762 rfl (lv_at hl 3 rfl) ?_
    refine lv_aload_n hx hb dL_law_763 rfl (lv_at hl 1 rfl) ?_
    refine lv_iload hx hb dL_law_764 (lv_at hl 6 rfl) ?_
    refine lv_iconst (v := 1) hx hb dL_law_766 (by decide) ?_
    refine lv_iadd hx hb dL_law_767 ?_
    refine va_sld hx hb hX hbl hbA hw.2.2 h1 dL_law_768 ?_
    refine lv_topi (fun y ey => ?_)
    obtain rfl : p1 = y := (ey.trans e1).symm
    refine lv_aload_n hx hb dL_law_769 rfl (lv_at hl 1 rfl) ?_
    refine lv_iload hx hb dL_law_770 (lv_at hl 6 rfl) ?_
    refine lv_iconst (v := 2) hx hb dL_law_772 (by decide) ?_
    refine lv_iadd hx hb dL_law_773 ?_
    refine va_sld hx hb hX hbl hbA hw.2.2 h2 dL_law_774 ?_
    refine lv_topi (fun y ey => ?_)
    obtain rfl : p2 = y := (ey.trans e2).symm
    refine k_callV (ci := 11) (C := RX11) (T := TX11) (N := 14) (nA := 2) (As := [.int p1, .int p2]) (cs := [w11 cA a1 w]) (rs := [w10 cA cR a0 v, [(q3, .inl (cL, 1, .inr (.inl f3)))], [(q4, .inl (cF, 1, .inr (.inr (.inr (.inl f4)))))]]) (cs1 := [w11 cA a1 z.2]) (bs1 := [w10 cA cR a0 v, w11 cA a1 z.2, [(q3, .inl (cL, 1, .inr (.inl f3)))], [(q4, .inl (cF, 1, .inr (.inr (.inr (.inl f4)))))]]) (rest := []) (st1 := [.int z.1]) ⟨hx, hb, hml, hown, hts⟩ hz hw hA (mX11_step l D cA cR a1 w p1 p2 z hz1) gL_law_X11_step rfl rfl rfl (by decide +kernel) rfl ⟨Nat.le_of_ble_eq_true rfl, Nat.le_of_ble_eq_true rfl⟩ rfl rfl hl.1 rfl (Nat.le_of_ble_eq_true rfl) dL_law_775 ⟨(by show _ ≤ 601024; omega), (by show _ ≤ 7293034; omega)⟩ [1] [0, 2, 3] [0, 3, 1, 2] rfl rfl rfl rfl rfl rfl (fun H locs hw => ?_)
    refine lv_istore (lv' := [(7, .int z.1), (6, .int (1 : Int32)), (0, .ref b), (1, .ref a0.1), (2, .ref a1.1), (3, .ref q3), (4, .ref q4), (5, .int x5)]) hx hb dL_law_778 hl (by decide) rfl (fun ls hl => ?_)
    refine lv_aload_n hx hb dL_law_780 rfl (lv_at hl 4 rfl) ?_
    refine k_callV (ci := 11) (C := RX11) (T := TX11) (N := 14) (nA := 0) (As := []) (cs := [w11 cA a1 z.2]) (rs := [w10 cA cR a0 v, [(q3, .inl (cL, 1, .inr (.inl f3)))], [(q4, .inl (cF, 1, .inr (.inr (.inr (.inl f4)))))]]) (cs1 := [w11 cA a1 z.2]) (bs1 := [w10 cA cR a0 v, w11 cA a1 z.2, [(q3, .inl (cL, 1, .inr (.inl f3)))], [(q4, .inl (cF, 1, .inr (.inr (.inr (.inl f4)))))]]) (rest := []) (st1 := [.int z.2.2.2.2.1]) ⟨hx, hb, hml, hown, hts⟩ hz hw hA (mX11_thrown l D cA cR a1 z.2 (z.2.2.2.2.1) rfl) gL_law_X11_thrown rfl rfl rfl (by decide +kernel) rfl ⟨Nat.le_of_ble_eq_true rfl, Nat.le_of_ble_eq_true rfl⟩ rfl rfl hl.1 rfl (Nat.le_of_ble_eq_true rfl) dL_law_781 ⟨(by show _ ≤ 601024; omega), (by show _ ≤ 7293034; omega)⟩ [1] [0, 2, 3] [0, 3, 1, 2] rfl rfl rfl rfl rfl rfl (fun H locs hw => ?_)
    refine lv_iload hx hb dL_law_784 (lv_at hl 1 rfl) ?_
    refine lv_icmp_eq (tgt := 791) hx hb dL_law_786 (by decide) (fun _ => ?_) (fun cc => absurd hth cc)
    refine lv_iload hx hb dL_law_791 (lv_at hl 1 rfl) ?_
    refine lv_if_ne (tgt := 808) hx hb dL_law_793 (by decide) (fun _ => ?_) (fun cc => absurd cc (by decide))
    refine lv_goto (tgt := 1547) hx hb dL_law_808 (by decide) ?_
    refine W.widen (k := k0 + 1) (n := s0 + 6) (by omega) (by omega) ?_
    exact kk v z.2 f3 f4 _ _ _ hR hw (lv_sub hl [2, 3, 4, 5, 6, 7] rfl)
  · skip
    refine lv_aload_n hx hb dL_law_743 rfl (lv_at hl 1 rfl) ?_
    refine lv_aload_n hx hb dL_law_744 rfl (lv_at hl 0 rfl) ?_
    refine lv_iload hx hb dL_law_745 (lv_at hl 5 rfl) ?_
    refine lv_iconst (v := 1) hx hb dL_law_747 (by decide) ?_
    refine lv_iadd hx hb dL_law_748 ?_
    refine va_sld hx hb hX hbl hbA hw.2.2 h1 dL_law_749 ?_
    refine lv_topi (fun y ey => ?_)
    obtain rfl : p1 = y := (ey.trans e1).symm
    refine lv_aload_n hx hb dL_law_750 rfl (lv_at hl 0 rfl) ?_
    refine lv_iload hx hb dL_law_751 (lv_at hl 5 rfl) ?_
    refine lv_iconst (v := 2) hx hb dL_law_753 (by decide) ?_
    refine lv_iadd hx hb dL_law_754 ?_
    refine va_sld hx hb hX hbl hbA hw.2.2 h2 dL_law_755 ?_
    refine lv_topi (fun y ey => ?_)
    obtain rfl : p2 = y := (ey.trans e2).symm
    refine lv_aload_n hx hb dL_law_756 rfl (lv_at hl 3 rfl) ?_
    refine k_call (cs := [w10 cA cR a0 v, [(q3, .inl (cL, 1, .inr (.inl f3)))]]) (rs := [w11 cA a1 w, [(q4, .inl (cF, 1, .inr (.inr (.inr (.inl f4)))))]]) (cs1 := [w10 cA cR a0 v, [(q3, .inl (cL, 1, .inr (.inl f3)))]]) (bs1 := [w10 cA cR a0 v, w11 cA a1 w, [(q3, .inl (cL, 1, .inr (.inl f3)))], [(q4, .inl (cF, 1, .inr (.inr (.inr (.inl f4)))))]]) (rest := []) (st1 := [.int (2 : Int32)]) hw hA [0, 2] [1, 3] [2, 0, 3, 1] rfl rfl rfl rfl rfl (k_runL (nA := 4) (As := [.ref a0.1, .int p1, .int p2, .ref q3]) (cs := [w10 cA cR a0 v, [(q3, .inl (cL, 1, .inr (.inl f3)))]]) (rs := [w11 cA a1 w, [(q4, .inl (cF, 1, .inr (.inr (.inr (.inl f4)))))]]) (rest := []) ⟨hx, hb, hml, hown, hts⟩ hz hzl hzx hw hA (t1L_step l hlt D cA cR cL cF  a0 v p1 p2 q3 f3 hu) gL_law_L_step rfl rfl rfl (by decide +kernel) rfl ⟨Nat.le_of_ble_eq_true rfl, Nat.le_of_ble_eq_true rfl⟩ hl.1 rfl (Nat.le_of_ble_eq_true rfl) dL_law_757 ⟨(by show _ ≤ 601024; omega), (by show _ ≤ 7293034; omega)⟩ [0, 2] [1, 3] rfl rfl rfl) rfl (fun H locs hw => ?_)
    refine lv_istore (lv' := [(6, .int (2 : Int32)), (0, .ref b), (1, .ref a0.1), (2, .ref a1.1), (3, .ref q3), (4, .ref q4), (5, .int x5)]) hx hb dL_law_760 hl (by decide) rfl (fun ls hl => ?_)
    refine lv_aload_n hx hb dL_law_762 rfl (lv_at hl 3 rfl) ?_
    refine lv_aload_n hx hb dL_law_763 rfl (lv_at hl 1 rfl) ?_
    refine lv_iload hx hb dL_law_764 (lv_at hl 6 rfl) ?_
    refine lv_iconst (v := 1) hx hb dL_law_766 (by decide) ?_
    refine lv_iadd hx hb dL_law_767 ?_
    refine va_sld hx hb hX hbl hbA hw.2.2 h1 dL_law_768 ?_
    refine lv_topi (fun y ey => ?_)
    obtain rfl : p1 = y := (ey.trans e1).symm
    refine lv_aload_n hx hb dL_law_769 rfl (lv_at hl 1 rfl) ?_
    refine lv_iload hx hb dL_law_770 (lv_at hl 6 rfl) ?_
    refine lv_iconst (v := 2) hx hb dL_law_772 (by decide) ?_
    refine lv_iadd hx hb dL_law_773 ?_
    refine va_sld hx hb hX hbl hbA hw.2.2 h2 dL_law_774 ?_
    refine lv_topi (fun y ey => ?_)
    obtain rfl : p2 = y := (ey.trans e2).symm
    refine k_callV (ci := 11) (C := RX11) (T := TX11) (N := 14) (nA := 2) (As := [.int p1, .int p2]) (cs := [w11 cA a1 w]) (rs := [w10 cA cR a0 v, [(q3, .inl (cL, 1, .inr (.inl f3)))], [(q4, .inl (cF, 1, .inr (.inr (.inr (.inl f4)))))]]) (cs1 := [w11 cA a1 z.2]) (bs1 := [w10 cA cR a0 v, w11 cA a1 z.2, [(q3, .inl (cL, 1, .inr (.inl f3)))], [(q4, .inl (cF, 1, .inr (.inr (.inr (.inl f4)))))]]) (rest := []) (st1 := [.int z.1]) ⟨hx, hb, hml, hown, hts⟩ hz hw hA (mX11_step l D cA cR a1 w p1 p2 z hz1) gL_law_X11_step rfl rfl rfl (by decide +kernel) rfl ⟨Nat.le_of_ble_eq_true rfl, Nat.le_of_ble_eq_true rfl⟩ rfl rfl hl.1 rfl (Nat.le_of_ble_eq_true rfl) dL_law_775 ⟨(by show _ ≤ 601024; omega), (by show _ ≤ 7293034; omega)⟩ [1] [0, 2, 3] [0, 3, 1, 2] rfl rfl rfl rfl rfl rfl (fun H locs hw => ?_)
    refine lv_istore (lv' := [(7, .int z.1), (6, .int (2 : Int32)), (0, .ref b), (1, .ref a0.1), (2, .ref a1.1), (3, .ref q3), (4, .ref q4), (5, .int x5)]) hx hb dL_law_778 hl (by decide) rfl (fun ls hl => ?_)
    refine lv_aload_n hx hb dL_law_780 rfl (lv_at hl 4 rfl) ?_
    refine k_callV (ci := 11) (C := RX11) (T := TX11) (N := 14) (nA := 0) (As := []) (cs := [w11 cA a1 z.2]) (rs := [w10 cA cR a0 v, [(q3, .inl (cL, 1, .inr (.inl f3)))], [(q4, .inl (cF, 1, .inr (.inr (.inr (.inl f4)))))]]) (cs1 := [w11 cA a1 z.2]) (bs1 := [w10 cA cR a0 v, w11 cA a1 z.2, [(q3, .inl (cL, 1, .inr (.inl f3)))], [(q4, .inl (cF, 1, .inr (.inr (.inr (.inl f4)))))]]) (rest := []) (st1 := [.int z.2.2.2.2.1]) ⟨hx, hb, hml, hown, hts⟩ hz hw hA (mX11_thrown l D cA cR a1 z.2 (z.2.2.2.2.1) rfl) gL_law_X11_thrown rfl rfl rfl (by decide +kernel) rfl ⟨Nat.le_of_ble_eq_true rfl, Nat.le_of_ble_eq_true rfl⟩ rfl rfl hl.1 rfl (Nat.le_of_ble_eq_true rfl) dL_law_781 ⟨(by show _ ≤ 601024; omega), (by show _ ≤ 7293034; omega)⟩ [1] [0, 2, 3] [0, 3, 1, 2] rfl rfl rfl rfl rfl rfl (fun H locs hw => ?_)
    refine lv_iload hx hb dL_law_784 (lv_at hl 1 rfl) ?_
    refine lv_icmp_eq (tgt := 791) hx hb dL_law_786 (by decide) (fun _ => ?_) (fun cc => absurd hth cc)
    refine lv_iload hx hb dL_law_791 (lv_at hl 1 rfl) ?_
    refine lv_if_ne (tgt := 808) hx hb dL_law_793 (by decide) (fun _ => ?_) (fun cc => absurd cc (by decide))
    refine lv_goto (tgt := 1547) hx hb dL_law_808 (by decide) ?_
    refine W.widen (k := k0 + 1) (n := s0 + 6) (by omega) (by omega) ?_
    exact kk v z.2 f3 f4 _ _ _ hR hw (lv_sub hl [2, 3, 4, 5, 6, 7] rfl)
set_option maxHeartbeats 4000000 in
set_option maxRecDepth 100000 in
theorem lk_11 {p : Program} {l : Launch} {e : Env} {s : State} {m : MethodId} {below : List Frame} {meth : Method} {c : Code} {D : va_G} {cA cR cL cF : ClassId} {b L : Nat} {xs : Nat → Int32} {RR : Nat → V10 → V11 → Prop} {N : Nat} (hpu : PU_planByte RR N) (X : LX p l s m c b L xs D cA cR cL cF) {k0 s0 : Nat} (hk0 : k0 + 1 ≤ 601024) (hs0 : s0 + 6 ≤ 7293034) {cn : Nat} (hcn : cn < 512) {x5 : Int32} {p1 : Int32} (h1 : vp_in (x5 + 1) L) (e1 : xs (x5 + 1).toNatClampNeg = p1) {v : V10} {w : V11} {a0 : A10} {a1 : A11} {q3 q4 : Nat} {f3 : Nat → Int64} {f4 : Nat → UInt64} {H : Heap} {locs : List Loc} {ls : Array Slot} {Q : State → Prop} (hR : RR cn v w) (hw : ww (fun q : Nat => s.heap.size ≤ q) s.heap D [w10 cA cR a0 v, w11 cA a1 w, [(q3, .inl (cL, 1, .inr (.inl f3)))], [(q4, .inl (cF, 1, .inr (.inr (.inr (.inl f4)))))]] H locs) (hl : lv_has ls 9 [(0, .ref b), (1, .ref a0.1), (2, .ref a1.1), (3, .ref q3), (4, .ref q4), (5, .int x5)])
    (kk : ∀ (v : V10) (w : V11) (f3 : Nat → Int64) (f4 : Nat → UInt64) (H : Heap) (locs : List Loc) (ls : Array Slot), RR (cn + 1) v w → ww (fun q : Nat => s.heap.size ≤ q) s.heap D [w10 cA cR a0 v, w11 cA a1 w, [(q3, .inl (cL, 1, .inr (.inl f3)))], [(q4, .inl (cF, 1, .inr (.inr (.inr (.inl f4)))))]] H locs → lv_has ls 9 [(0, .ref b), (1, .ref a0.1), (2, .ref a1.1), (3, .ref q3), (4, .ref q4), (5, .int x5)] → W p l e room_1 s m #[Value.ref b] below meth c H locs (k0 + 1) (s0 + 6) Q (F0 m 1547 ls [])) : W p l e room_1 s m #[Value.ref b] below meth c H locs k0 s0 Q (F0 m 811 ls []) := by
  obtain ⟨hx, hb, hml, hown, hts, hX, hbl, hz, hzl, hzx, hlt⟩ := X
  have hA : ∀ q : Nat, s.heap.size ≤ q → (fun q : Nat => s.heap.size ≤ q) q := fun _ h => h
  have hbA : ¬ (fun q : Nat => s.heap.size ≤ q) b := Nat.not_le.mpr hbl
  rcases hpu cn v w p1 hcn hR with ⟨u, z, hu, hz1, hth, hret, hR⟩ | ⟨z, hu, hz1, hth, hR⟩
  · skip
    refine lv_aload_n hx hb dL_law_811 rfl (lv_at hl 1 rfl) ?_
    refine lv_aload_n hx hb dL_law_812 rfl (lv_at hl 0 rfl) ?_
    refine lv_iload hx hb dL_law_813 (lv_at hl 5 rfl) ?_
    refine lv_iconst (v := 1) hx hb dL_law_815 (by decide) ?_
    refine lv_iadd hx hb dL_law_816 ?_
    refine va_sld hx hb hX hbl hbA hw.2.2 h1 dL_law_817 ?_
    refine lv_topi (fun y ey => ?_)
    obtain rfl : p1 = y := (ey.trans e1).symm
    refine lv_aload_n hx hb dL_law_818 rfl (lv_at hl 3 rfl) ?_
    refine k_call (cs := [w10 cA cR a0 v, [(q3, .inl (cL, 1, .inr (.inl f3)))]]) (rs := [w11 cA a1 w, [(q4, .inl (cF, 1, .inr (.inr (.inr (.inl f4)))))]]) (cs1 := [w10 cA cR a0 u.2, [(q3, .inl (cL, 1, .inr (.inl (vp_updL f3 (0 : Int32).toNatClampNeg u.1.toInt64))))]]) (bs1 := [w10 cA cR a0 u.2, w11 cA a1 w, [(q3, .inl (cL, 1, .inr (.inl (vp_updL f3 (0 : Int32).toNatClampNeg u.1.toInt64))))], [(q4, .inl (cF, 1, .inr (.inr (.inr (.inl f4)))))]]) (rest := []) (st1 := [.int (0 : Int32)]) hw hA [0, 2] [1, 3] [2, 0, 3, 1] rfl rfl rfl rfl rfl (k_runL (nA := 3) (As := [.ref a0.1, .int p1, .ref q3]) (cs := [w10 cA cR a0 v, [(q3, .inl (cL, 1, .inr (.inl f3)))]]) (rs := [w11 cA a1 w, [(q4, .inl (cF, 1, .inr (.inr (.inr (.inl f4)))))]]) (rest := []) ⟨hx, hb, hml, hown, hts⟩ hz hzl hzx hw hA (mL_planByte l D cA cR cL cF N a0 v p1 q3 f3 u hu) gL_law_L_planByte rfl rfl rfl (by decide +kernel) rfl ⟨Nat.le_of_ble_eq_true rfl, Nat.le_of_ble_eq_true rfl⟩ hl.1 rfl (Nat.le_of_ble_eq_true rfl) dL_law_819 ⟨(by show _ ≤ 601024; omega), (by show _ ≤ 7293034; omega)⟩ [0, 2] [1, 3] rfl rfl rfl) rfl (fun H locs hw => ?_)
    refine lv_istore (lv' := [(6, .int (0 : Int32)), (0, .ref b), (1, .ref a0.1), (2, .ref a1.1), (3, .ref q3), (4, .ref q4), (5, .int x5)]) hx hb dL_law_822 hl (by decide) rfl (fun ls hl => ?_)
    refine lv_aload_n hx hb dL_law_824 rfl (lv_at hl 3 rfl) ?_
    refine lv_aload_n hx hb dL_law_825 rfl (lv_at hl 1 rfl) ?_
    refine lv_iload hx hb dL_law_826 (lv_at hl 6 rfl) ?_
    refine lv_iconst (v := 1) hx hb dL_law_828 (by decide) ?_
    refine lv_iadd hx hb dL_law_829 ?_
    refine va_sld hx hb hX hbl hbA hw.2.2 h1 dL_law_830 ?_
    refine lv_topi (fun y ey => ?_)
    obtain rfl : p1 = y := (ey.trans e1).symm
    refine k_callV (ci := 11) (C := RX11) (T := TX11) (N := 14) (nA := 1) (As := [.int p1]) (cs := [w11 cA a1 w]) (rs := [w10 cA cR a0 u.2, [(q3, .inl (cL, 1, .inr (.inl (vp_updL f3 (0 : Int32).toNatClampNeg u.1.toInt64))))], [(q4, .inl (cF, 1, .inr (.inr (.inr (.inl f4)))))]]) (cs1 := [w11 cA a1 z.2]) (bs1 := [w10 cA cR a0 u.2, w11 cA a1 z.2, [(q3, .inl (cL, 1, .inr (.inl (vp_updL f3 (0 : Int32).toNatClampNeg u.1.toInt64))))], [(q4, .inl (cF, 1, .inr (.inr (.inr (.inl f4)))))]]) (rest := []) (st1 := [.int z.1]) ⟨hx, hb, hml, hown, hts⟩ hz hw hA (mX11_planByte l D cA cR N a1 w p1 z hz1) gL_law_X11_planByte rfl rfl rfl (by decide +kernel) rfl ⟨Nat.le_of_ble_eq_true rfl, Nat.le_of_ble_eq_true rfl⟩ rfl rfl hl.1 rfl (Nat.le_of_ble_eq_true rfl) dL_law_831 ⟨(by show _ ≤ 601024; omega), (by show _ ≤ 7293034; omega)⟩ [1] [0, 2, 3] [0, 3, 1, 2] rfl rfl rfl rfl rfl rfl (fun H locs hw => ?_)
    refine lv_istore (lv' := [(7, .int z.1), (6, .int (0 : Int32)), (0, .ref b), (1, .ref a0.1), (2, .ref a1.1), (3, .ref q3), (4, .ref q4), (5, .int x5)]) hx hb dL_law_834 hl (by decide) rfl (fun ls hl => ?_)
    refine lv_aload_n hx hb dL_law_836 rfl (lv_at hl 4 rfl) ?_
    refine k_callV (ci := 11) (C := RX11) (T := TX11) (N := 14) (nA := 0) (As := []) (cs := [w11 cA a1 z.2]) (rs := [w10 cA cR a0 u.2, [(q3, .inl (cL, 1, .inr (.inl (vp_updL f3 (0 : Int32).toNatClampNeg u.1.toInt64))))], [(q4, .inl (cF, 1, .inr (.inr (.inr (.inl f4)))))]]) (cs1 := [w11 cA a1 z.2]) (bs1 := [w10 cA cR a0 u.2, w11 cA a1 z.2, [(q3, .inl (cL, 1, .inr (.inl (vp_updL f3 (0 : Int32).toNatClampNeg u.1.toInt64))))], [(q4, .inl (cF, 1, .inr (.inr (.inr (.inl f4)))))]]) (rest := []) (st1 := [.int z.2.2.2.2.1]) ⟨hx, hb, hml, hown, hts⟩ hz hw hA (mX11_thrown l D cA cR a1 z.2 (z.2.2.2.2.1) rfl) gL_law_X11_thrown rfl rfl rfl (by decide +kernel) rfl ⟨Nat.le_of_ble_eq_true rfl, Nat.le_of_ble_eq_true rfl⟩ rfl rfl hl.1 rfl (Nat.le_of_ble_eq_true rfl) dL_law_837 ⟨(by show _ ≤ 601024; omega), (by show _ ≤ 7293034; omega)⟩ [1] [0, 2, 3] [0, 3, 1, 2] rfl rfl rfl rfl rfl rfl (fun H locs hw => ?_)
    refine lv_iload hx hb dL_law_840 (lv_at hl 1 rfl) ?_
    refine lv_icmp_eq (tgt := 847) hx hb dL_law_842 (by decide) (fun _ => ?_) (fun cc => absurd hth cc)
    refine lv_iload hx hb dL_law_847 (lv_at hl 1 rfl) ?_
    refine lv_if_ne (tgt := 864) hx hb dL_law_849 (by decide) (fun cc => absurd rfl cc) (fun _ => ?_)
    refine lv_aload_n hx hb dL_law_852 rfl (lv_at hl 5 rfl) ?_
    refine lv_iconst (v := 0) hx hb dL_law_853 (by decide) ?_
    refine k_lald hx hb hzl hw 2 rfl (by unfold vp_in; decide) dL_law_854 ?_
    refine lv_iload hx hb dL_law_855 (lv_at hl 0 rfl) ?_
    refine lv_i2l hx hb dL_law_857 rfl ?_
    refine W.lcmp hx hb dL_law_858 ?_
    refine lv_if_eq (tgt := 864) hx hb dL_law_859 (by decide) (fun _ => ?_) (fun cc => absurd (lcmp_same (by rw [← hret]; exact pk_uLs)) cc)
    refine lv_goto (tgt := 1547) hx hb dL_law_864 (by decide) ?_
    refine W.widen (k := k0 + 1) (n := s0 + 6) (by omega) (by omega) ?_
    exact kk u.2 z.2 (vp_updL f3 (0 : Int32).toNatClampNeg u.1.toInt64) f4 _ _ _ hR hw (lv_sub hl [2, 3, 4, 5, 6, 7] rfl)
  · skip
    refine lv_aload_n hx hb dL_law_811 rfl (lv_at hl 1 rfl) ?_
    refine lv_aload_n hx hb dL_law_812 rfl (lv_at hl 0 rfl) ?_
    refine lv_iload hx hb dL_law_813 (lv_at hl 5 rfl) ?_
    refine lv_iconst (v := 1) hx hb dL_law_815 (by decide) ?_
    refine lv_iadd hx hb dL_law_816 ?_
    refine va_sld hx hb hX hbl hbA hw.2.2 h1 dL_law_817 ?_
    refine lv_topi (fun y ey => ?_)
    obtain rfl : p1 = y := (ey.trans e1).symm
    refine lv_aload_n hx hb dL_law_818 rfl (lv_at hl 3 rfl) ?_
    refine k_call (cs := [w10 cA cR a0 v, [(q3, .inl (cL, 1, .inr (.inl f3)))]]) (rs := [w11 cA a1 w, [(q4, .inl (cF, 1, .inr (.inr (.inr (.inl f4)))))]]) (cs1 := [w10 cA cR a0 v, [(q3, .inl (cL, 1, .inr (.inl f3)))]]) (bs1 := [w10 cA cR a0 v, w11 cA a1 w, [(q3, .inl (cL, 1, .inr (.inl f3)))], [(q4, .inl (cF, 1, .inr (.inr (.inr (.inl f4)))))]]) (rest := []) (st1 := [.int (1 : Int32)]) hw hA [0, 2] [1, 3] [2, 0, 3, 1] rfl rfl rfl rfl rfl (k_runL (nA := 3) (As := [.ref a0.1, .int p1, .ref q3]) (cs := [w10 cA cR a0 v, [(q3, .inl (cL, 1, .inr (.inl f3)))]]) (rs := [w11 cA a1 w, [(q4, .inl (cF, 1, .inr (.inr (.inr (.inl f4)))))]]) (rest := []) ⟨hx, hb, hml, hown, hts⟩ hz hzl hzx hw hA (t0L_planByte l hlt D cA cR cL cF N a0 v p1 q3 f3 hu) gL_law_L_planByte rfl rfl rfl (by decide +kernel) rfl ⟨Nat.le_of_ble_eq_true rfl, Nat.le_of_ble_eq_true rfl⟩ hl.1 rfl (Nat.le_of_ble_eq_true rfl) dL_law_819 ⟨(by show _ ≤ 601024; omega), (by show _ ≤ 7293034; omega)⟩ [0, 2] [1, 3] rfl rfl rfl) rfl (fun H locs hw => ?_)
    refine lv_istore (lv' := [(6, .int (1 : Int32)), (0, .ref b), (1, .ref a0.1), (2, .ref a1.1), (3, .ref q3), (4, .ref q4), (5, .int x5)]) hx hb dL_law_822 hl (by decide) rfl (fun ls hl => ?_)
    refine lv_aload_n hx hb dL_law_824 rfl (lv_at hl 3 rfl) ?_
    refine lv_aload_n hx hb dL_law_825 rfl (lv_at hl 1 rfl) ?_
    refine lv_iload hx hb dL_law_826 (lv_at hl 6 rfl) ?_
    refine lv_iconst (v := 1) hx hb dL_law_828 (by decide) ?_
    refine lv_iadd hx hb dL_law_829 ?_
    refine va_sld hx hb hX hbl hbA hw.2.2 h1 dL_law_830 ?_
    refine lv_topi (fun y ey => ?_)
    obtain rfl : p1 = y := (ey.trans e1).symm
    refine k_callV (ci := 11) (C := RX11) (T := TX11) (N := 14) (nA := 1) (As := [.int p1]) (cs := [w11 cA a1 w]) (rs := [w10 cA cR a0 v, [(q3, .inl (cL, 1, .inr (.inl f3)))], [(q4, .inl (cF, 1, .inr (.inr (.inr (.inl f4)))))]]) (cs1 := [w11 cA a1 z.2]) (bs1 := [w10 cA cR a0 v, w11 cA a1 z.2, [(q3, .inl (cL, 1, .inr (.inl f3)))], [(q4, .inl (cF, 1, .inr (.inr (.inr (.inl f4)))))]]) (rest := []) (st1 := [.int z.1]) ⟨hx, hb, hml, hown, hts⟩ hz hw hA (mX11_planByte l D cA cR N a1 w p1 z hz1) gL_law_X11_planByte rfl rfl rfl (by decide +kernel) rfl ⟨Nat.le_of_ble_eq_true rfl, Nat.le_of_ble_eq_true rfl⟩ rfl rfl hl.1 rfl (Nat.le_of_ble_eq_true rfl) dL_law_831 ⟨(by show _ ≤ 601024; omega), (by show _ ≤ 7293034; omega)⟩ [1] [0, 2, 3] [0, 3, 1, 2] rfl rfl rfl rfl rfl rfl (fun H locs hw => ?_)
    refine lv_istore (lv' := [(7, .int z.1), (6, .int (1 : Int32)), (0, .ref b), (1, .ref a0.1), (2, .ref a1.1), (3, .ref q3), (4, .ref q4), (5, .int x5)]) hx hb dL_law_834 hl (by decide) rfl (fun ls hl => ?_)
    refine lv_aload_n hx hb dL_law_836 rfl (lv_at hl 4 rfl) ?_
    refine k_callV (ci := 11) (C := RX11) (T := TX11) (N := 14) (nA := 0) (As := []) (cs := [w11 cA a1 z.2]) (rs := [w10 cA cR a0 v, [(q3, .inl (cL, 1, .inr (.inl f3)))], [(q4, .inl (cF, 1, .inr (.inr (.inr (.inl f4)))))]]) (cs1 := [w11 cA a1 z.2]) (bs1 := [w10 cA cR a0 v, w11 cA a1 z.2, [(q3, .inl (cL, 1, .inr (.inl f3)))], [(q4, .inl (cF, 1, .inr (.inr (.inr (.inl f4)))))]]) (rest := []) (st1 := [.int z.2.2.2.2.1]) ⟨hx, hb, hml, hown, hts⟩ hz hw hA (mX11_thrown l D cA cR a1 z.2 (z.2.2.2.2.1) rfl) gL_law_X11_thrown rfl rfl rfl (by decide +kernel) rfl ⟨Nat.le_of_ble_eq_true rfl, Nat.le_of_ble_eq_true rfl⟩ rfl rfl hl.1 rfl (Nat.le_of_ble_eq_true rfl) dL_law_837 ⟨(by show _ ≤ 601024; omega), (by show _ ≤ 7293034; omega)⟩ [1] [0, 2, 3] [0, 3, 1, 2] rfl rfl rfl rfl rfl rfl (fun H locs hw => ?_)
    refine lv_iload hx hb dL_law_840 (lv_at hl 1 rfl) ?_
    refine lv_icmp_eq (tgt := 847) hx hb dL_law_842 (by decide) (fun _ => ?_) (fun cc => absurd hth cc)
    refine lv_iload hx hb dL_law_847 (lv_at hl 1 rfl) ?_
    refine lv_if_ne (tgt := 864) hx hb dL_law_849 (by decide) (fun _ => ?_) (fun cc => absurd cc (by decide))
    refine lv_goto (tgt := 1547) hx hb dL_law_864 (by decide) ?_
    refine W.widen (k := k0 + 1) (n := s0 + 6) (by omega) (by omega) ?_
    exact kk v z.2 f3 f4 _ _ _ hR hw (lv_sub hl [2, 3, 4, 5, 6, 7] rfl)
set_option maxHeartbeats 4000000 in
set_option maxRecDepth 100000 in
theorem lk_12 {p : Program} {l : Launch} {e : Env} {s : State} {m : MethodId} {below : List Frame} {meth : Method} {c : Code} {D : va_G} {cA cR cL cF : ClassId} {b L : Nat} {xs : Nat → Int32} {RR : Nat → V10 → V11 → Prop} {N : Nat} (hpu : PU_revisit RR N) (X : LX p l s m c b L xs D cA cR cL cF) {k0 s0 : Nat} (hk0 : k0 + 1 ≤ 601024) (hs0 : s0 + 6 ≤ 7293034) {cn : Nat} (hcn : cn < 512) {x5 : Int32} {p1 : Int32} (h1 : vp_in (x5 + 1) L) (e1 : xs (x5 + 1).toNatClampNeg = p1) {v : V10} {w : V11} {a0 : A10} {a1 : A11} {q3 q4 : Nat} {f3 : Nat → Int64} {f4 : Nat → UInt64} {H : Heap} {locs : List Loc} {ls : Array Slot} {Q : State → Prop} (hR : RR cn v w) (hw : ww (fun q : Nat => s.heap.size ≤ q) s.heap D [w10 cA cR a0 v, w11 cA a1 w, [(q3, .inl (cL, 1, .inr (.inl f3)))], [(q4, .inl (cF, 1, .inr (.inr (.inr (.inl f4)))))]] H locs) (hl : lv_has ls 9 [(0, .ref b), (1, .ref a0.1), (2, .ref a1.1), (3, .ref q3), (4, .ref q4), (5, .int x5)])
    (kk : ∀ (v : V10) (w : V11) (f3 : Nat → Int64) (f4 : Nat → UInt64) (H : Heap) (locs : List Loc) (ls : Array Slot), RR (cn + 1) v w → ww (fun q : Nat => s.heap.size ≤ q) s.heap D [w10 cA cR a0 v, w11 cA a1 w, [(q3, .inl (cL, 1, .inr (.inl f3)))], [(q4, .inl (cF, 1, .inr (.inr (.inr (.inl f4)))))]] H locs → lv_has ls 9 [(0, .ref b), (1, .ref a0.1), (2, .ref a1.1), (3, .ref q3), (4, .ref q4), (5, .int x5)] → W p l e room_1 s m #[Value.ref b] below meth c H locs (k0 + 1) (s0 + 6) Q (F0 m 1547 ls [])) : W p l e room_1 s m #[Value.ref b] below meth c H locs k0 s0 Q (F0 m 867 ls []) := by
  obtain ⟨hx, hb, hml, hown, hts, hX, hbl, hz, hzl, hzx, hlt⟩ := X
  have hA : ∀ q : Nat, s.heap.size ≤ q → (fun q : Nat => s.heap.size ≤ q) q := fun _ h => h
  have hbA : ¬ (fun q : Nat => s.heap.size ≤ q) b := Nat.not_le.mpr hbl
  rcases hpu cn v w p1 hcn hR with ⟨u, z, hu, hz1, hth, hret, hR⟩ | ⟨z, hu, hz1, hth, hR⟩
  · skip
    refine lv_aload_n hx hb dL_law_867 rfl (lv_at hl 1 rfl) ?_
    refine lv_aload_n hx hb dL_law_868 rfl (lv_at hl 0 rfl) ?_
    refine lv_iload hx hb dL_law_869 (lv_at hl 5 rfl) ?_
    refine lv_iconst (v := 1) hx hb dL_law_871 (by decide) ?_
    refine lv_iadd hx hb dL_law_872 ?_
    refine va_sld hx hb hX hbl hbA hw.2.2 h1 dL_law_873 ?_
    refine lv_topi (fun y ey => ?_)
    obtain rfl : p1 = y := (ey.trans e1).symm
    refine lv_aload_n hx hb dL_law_874 rfl (lv_at hl 3 rfl) ?_
    refine k_call (cs := [w10 cA cR a0 v, [(q3, .inl (cL, 1, .inr (.inl f3)))]]) (rs := [w11 cA a1 w, [(q4, .inl (cF, 1, .inr (.inr (.inr (.inl f4)))))]]) (cs1 := [w10 cA cR a0 v, [(q3, .inl (cL, 1, .inr (.inl (vp_updL f3 (0 : Int32).toNatClampNeg u.toInt64))))]]) (bs1 := [w10 cA cR a0 v, w11 cA a1 w, [(q3, .inl (cL, 1, .inr (.inl (vp_updL f3 (0 : Int32).toNatClampNeg u.toInt64))))], [(q4, .inl (cF, 1, .inr (.inr (.inr (.inl f4)))))]]) (rest := []) (st1 := [.int (0 : Int32)]) hw hA [0, 2] [1, 3] [2, 0, 3, 1] rfl rfl rfl rfl rfl (k_runL (nA := 3) (As := [.ref a0.1, .int p1, .ref q3]) (cs := [w10 cA cR a0 v, [(q3, .inl (cL, 1, .inr (.inl f3)))]]) (rs := [w11 cA a1 w, [(q4, .inl (cF, 1, .inr (.inr (.inr (.inl f4)))))]]) (rest := []) ⟨hx, hb, hml, hown, hts⟩ hz hzl hzx hw hA (mL_revisit l D cA cR cL cF N a0 v p1 q3 f3 u hu) gL_law_L_revisit rfl rfl rfl (by decide +kernel) rfl ⟨Nat.le_of_ble_eq_true rfl, Nat.le_of_ble_eq_true rfl⟩ hl.1 rfl (Nat.le_of_ble_eq_true rfl) dL_law_875 ⟨(by show _ ≤ 601024; omega), (by show _ ≤ 7293034; omega)⟩ [0, 2] [1, 3] rfl rfl rfl) rfl (fun H locs hw => ?_)
    refine lv_istore (lv' := [(6, .int (0 : Int32)), (0, .ref b), (1, .ref a0.1), (2, .ref a1.1), (3, .ref q3), (4, .ref q4), (5, .int x5)]) hx hb dL_law_878 hl (by decide) rfl (fun ls hl => ?_)
    refine lv_aload_n hx hb dL_law_880 rfl (lv_at hl 3 rfl) ?_
    refine lv_aload_n hx hb dL_law_881 rfl (lv_at hl 1 rfl) ?_
    refine lv_iload hx hb dL_law_882 (lv_at hl 6 rfl) ?_
    refine lv_iconst (v := 1) hx hb dL_law_884 (by decide) ?_
    refine lv_iadd hx hb dL_law_885 ?_
    refine va_sld hx hb hX hbl hbA hw.2.2 h1 dL_law_886 ?_
    refine lv_topi (fun y ey => ?_)
    obtain rfl : p1 = y := (ey.trans e1).symm
    refine k_callV (ci := 11) (C := RX11) (T := TX11) (N := 14) (nA := 1) (As := [.int p1]) (cs := [w11 cA a1 w]) (rs := [w10 cA cR a0 v, [(q3, .inl (cL, 1, .inr (.inl (vp_updL f3 (0 : Int32).toNatClampNeg u.toInt64))))], [(q4, .inl (cF, 1, .inr (.inr (.inr (.inl f4)))))]]) (cs1 := [w11 cA a1 z.2]) (bs1 := [w10 cA cR a0 v, w11 cA a1 z.2, [(q3, .inl (cL, 1, .inr (.inl (vp_updL f3 (0 : Int32).toNatClampNeg u.toInt64))))], [(q4, .inl (cF, 1, .inr (.inr (.inr (.inl f4)))))]]) (rest := []) (st1 := [.int z.1]) ⟨hx, hb, hml, hown, hts⟩ hz hw hA (mX11_revisit l D cA cR N a1 w p1 z hz1) gL_law_X11_revisit rfl rfl rfl (by decide +kernel) rfl ⟨Nat.le_of_ble_eq_true rfl, Nat.le_of_ble_eq_true rfl⟩ rfl rfl hl.1 rfl (Nat.le_of_ble_eq_true rfl) dL_law_887 ⟨(by show _ ≤ 601024; omega), (by show _ ≤ 7293034; omega)⟩ [1] [0, 2, 3] [0, 3, 1, 2] rfl rfl rfl rfl rfl rfl (fun H locs hw => ?_)
    refine lv_istore (lv' := [(7, .int z.1), (6, .int (0 : Int32)), (0, .ref b), (1, .ref a0.1), (2, .ref a1.1), (3, .ref q3), (4, .ref q4), (5, .int x5)]) hx hb dL_law_890 hl (by decide) rfl (fun ls hl => ?_)
    refine lv_aload_n hx hb dL_law_892 rfl (lv_at hl 4 rfl) ?_
    refine k_callV (ci := 11) (C := RX11) (T := TX11) (N := 14) (nA := 0) (As := []) (cs := [w11 cA a1 z.2]) (rs := [w10 cA cR a0 v, [(q3, .inl (cL, 1, .inr (.inl (vp_updL f3 (0 : Int32).toNatClampNeg u.toInt64))))], [(q4, .inl (cF, 1, .inr (.inr (.inr (.inl f4)))))]]) (cs1 := [w11 cA a1 z.2]) (bs1 := [w10 cA cR a0 v, w11 cA a1 z.2, [(q3, .inl (cL, 1, .inr (.inl (vp_updL f3 (0 : Int32).toNatClampNeg u.toInt64))))], [(q4, .inl (cF, 1, .inr (.inr (.inr (.inl f4)))))]]) (rest := []) (st1 := [.int z.2.2.2.2.1]) ⟨hx, hb, hml, hown, hts⟩ hz hw hA (mX11_thrown l D cA cR a1 z.2 (z.2.2.2.2.1) rfl) gL_law_X11_thrown rfl rfl rfl (by decide +kernel) rfl ⟨Nat.le_of_ble_eq_true rfl, Nat.le_of_ble_eq_true rfl⟩ rfl rfl hl.1 rfl (Nat.le_of_ble_eq_true rfl) dL_law_893 ⟨(by show _ ≤ 601024; omega), (by show _ ≤ 7293034; omega)⟩ [1] [0, 2, 3] [0, 3, 1, 2] rfl rfl rfl rfl rfl rfl (fun H locs hw => ?_)
    refine lv_iload hx hb dL_law_896 (lv_at hl 1 rfl) ?_
    refine lv_icmp_eq (tgt := 903) hx hb dL_law_898 (by decide) (fun _ => ?_) (fun cc => absurd hth cc)
    refine lv_iload hx hb dL_law_903 (lv_at hl 1 rfl) ?_
    refine lv_if_ne (tgt := 920) hx hb dL_law_905 (by decide) (fun cc => absurd rfl cc) (fun _ => ?_)
    refine lv_aload_n hx hb dL_law_908 rfl (lv_at hl 5 rfl) ?_
    refine lv_iconst (v := 0) hx hb dL_law_909 (by decide) ?_
    refine k_lald hx hb hzl hw 2 rfl (by unfold vp_in; decide) dL_law_910 ?_
    refine lv_iload hx hb dL_law_911 (lv_at hl 0 rfl) ?_
    refine lv_i2l hx hb dL_law_913 rfl ?_
    refine W.lcmp hx hb dL_law_914 ?_
    refine lv_if_eq (tgt := 920) hx hb dL_law_915 (by decide) (fun _ => ?_) (fun cc => absurd (lcmp_same (by rw [← hret]; exact pk_uLs)) cc)
    refine lv_goto (tgt := 1547) hx hb dL_law_920 (by decide) ?_
    refine W.widen (k := k0 + 1) (n := s0 + 6) (by omega) (by omega) ?_
    exact kk v z.2 (vp_updL f3 (0 : Int32).toNatClampNeg u.toInt64) f4 _ _ _ hR hw (lv_sub hl [2, 3, 4, 5, 6, 7] rfl)
  · skip
    refine lv_aload_n hx hb dL_law_867 rfl (lv_at hl 1 rfl) ?_
    refine lv_aload_n hx hb dL_law_868 rfl (lv_at hl 0 rfl) ?_
    refine lv_iload hx hb dL_law_869 (lv_at hl 5 rfl) ?_
    refine lv_iconst (v := 1) hx hb dL_law_871 (by decide) ?_
    refine lv_iadd hx hb dL_law_872 ?_
    refine va_sld hx hb hX hbl hbA hw.2.2 h1 dL_law_873 ?_
    refine lv_topi (fun y ey => ?_)
    obtain rfl : p1 = y := (ey.trans e1).symm
    refine lv_aload_n hx hb dL_law_874 rfl (lv_at hl 3 rfl) ?_
    refine k_call (cs := [w10 cA cR a0 v, [(q3, .inl (cL, 1, .inr (.inl f3)))]]) (rs := [w11 cA a1 w, [(q4, .inl (cF, 1, .inr (.inr (.inr (.inl f4)))))]]) (cs1 := [w10 cA cR a0 v, [(q3, .inl (cL, 1, .inr (.inl f3)))]]) (bs1 := [w10 cA cR a0 v, w11 cA a1 w, [(q3, .inl (cL, 1, .inr (.inl f3)))], [(q4, .inl (cF, 1, .inr (.inr (.inr (.inl f4)))))]]) (rest := []) (st1 := [.int (1 : Int32)]) hw hA [0, 2] [1, 3] [2, 0, 3, 1] rfl rfl rfl rfl rfl (k_runL (nA := 3) (As := [.ref a0.1, .int p1, .ref q3]) (cs := [w10 cA cR a0 v, [(q3, .inl (cL, 1, .inr (.inl f3)))]]) (rs := [w11 cA a1 w, [(q4, .inl (cF, 1, .inr (.inr (.inr (.inl f4)))))]]) (rest := []) ⟨hx, hb, hml, hown, hts⟩ hz hzl hzx hw hA (t0L_revisit l hlt D cA cR cL cF N a0 v p1 q3 f3 hu) gL_law_L_revisit rfl rfl rfl (by decide +kernel) rfl ⟨Nat.le_of_ble_eq_true rfl, Nat.le_of_ble_eq_true rfl⟩ hl.1 rfl (Nat.le_of_ble_eq_true rfl) dL_law_875 ⟨(by show _ ≤ 601024; omega), (by show _ ≤ 7293034; omega)⟩ [0, 2] [1, 3] rfl rfl rfl) rfl (fun H locs hw => ?_)
    refine lv_istore (lv' := [(6, .int (1 : Int32)), (0, .ref b), (1, .ref a0.1), (2, .ref a1.1), (3, .ref q3), (4, .ref q4), (5, .int x5)]) hx hb dL_law_878 hl (by decide) rfl (fun ls hl => ?_)
    refine lv_aload_n hx hb dL_law_880 rfl (lv_at hl 3 rfl) ?_
    refine lv_aload_n hx hb dL_law_881 rfl (lv_at hl 1 rfl) ?_
    refine lv_iload hx hb dL_law_882 (lv_at hl 6 rfl) ?_
    refine lv_iconst (v := 1) hx hb dL_law_884 (by decide) ?_
    refine lv_iadd hx hb dL_law_885 ?_
    refine va_sld hx hb hX hbl hbA hw.2.2 h1 dL_law_886 ?_
    refine lv_topi (fun y ey => ?_)
    obtain rfl : p1 = y := (ey.trans e1).symm
    refine k_callV (ci := 11) (C := RX11) (T := TX11) (N := 14) (nA := 1) (As := [.int p1]) (cs := [w11 cA a1 w]) (rs := [w10 cA cR a0 v, [(q3, .inl (cL, 1, .inr (.inl f3)))], [(q4, .inl (cF, 1, .inr (.inr (.inr (.inl f4)))))]]) (cs1 := [w11 cA a1 z.2]) (bs1 := [w10 cA cR a0 v, w11 cA a1 z.2, [(q3, .inl (cL, 1, .inr (.inl f3)))], [(q4, .inl (cF, 1, .inr (.inr (.inr (.inl f4)))))]]) (rest := []) (st1 := [.int z.1]) ⟨hx, hb, hml, hown, hts⟩ hz hw hA (mX11_revisit l D cA cR N a1 w p1 z hz1) gL_law_X11_revisit rfl rfl rfl (by decide +kernel) rfl ⟨Nat.le_of_ble_eq_true rfl, Nat.le_of_ble_eq_true rfl⟩ rfl rfl hl.1 rfl (Nat.le_of_ble_eq_true rfl) dL_law_887 ⟨(by show _ ≤ 601024; omega), (by show _ ≤ 7293034; omega)⟩ [1] [0, 2, 3] [0, 3, 1, 2] rfl rfl rfl rfl rfl rfl (fun H locs hw => ?_)
    refine lv_istore (lv' := [(7, .int z.1), (6, .int (1 : Int32)), (0, .ref b), (1, .ref a0.1), (2, .ref a1.1), (3, .ref q3), (4, .ref q4), (5, .int x5)]) hx hb dL_law_890 hl (by decide) rfl (fun ls hl => ?_)
    refine lv_aload_n hx hb dL_law_892 rfl (lv_at hl 4 rfl) ?_
    refine k_callV (ci := 11) (C := RX11) (T := TX11) (N := 14) (nA := 0) (As := []) (cs := [w11 cA a1 z.2]) (rs := [w10 cA cR a0 v, [(q3, .inl (cL, 1, .inr (.inl f3)))], [(q4, .inl (cF, 1, .inr (.inr (.inr (.inl f4)))))]]) (cs1 := [w11 cA a1 z.2]) (bs1 := [w10 cA cR a0 v, w11 cA a1 z.2, [(q3, .inl (cL, 1, .inr (.inl f3)))], [(q4, .inl (cF, 1, .inr (.inr (.inr (.inl f4)))))]]) (rest := []) (st1 := [.int z.2.2.2.2.1]) ⟨hx, hb, hml, hown, hts⟩ hz hw hA (mX11_thrown l D cA cR a1 z.2 (z.2.2.2.2.1) rfl) gL_law_X11_thrown rfl rfl rfl (by decide +kernel) rfl ⟨Nat.le_of_ble_eq_true rfl, Nat.le_of_ble_eq_true rfl⟩ rfl rfl hl.1 rfl (Nat.le_of_ble_eq_true rfl) dL_law_893 ⟨(by show _ ≤ 601024; omega), (by show _ ≤ 7293034; omega)⟩ [1] [0, 2, 3] [0, 3, 1, 2] rfl rfl rfl rfl rfl rfl (fun H locs hw => ?_)
    refine lv_iload hx hb dL_law_896 (lv_at hl 1 rfl) ?_
    refine lv_icmp_eq (tgt := 903) hx hb dL_law_898 (by decide) (fun _ => ?_) (fun cc => absurd hth cc)
    refine lv_iload hx hb dL_law_903 (lv_at hl 1 rfl) ?_
    refine lv_if_ne (tgt := 920) hx hb dL_law_905 (by decide) (fun _ => ?_) (fun cc => absurd cc (by decide))
    refine lv_goto (tgt := 1547) hx hb dL_law_920 (by decide) ?_
    refine W.widen (k := k0 + 1) (n := s0 + 6) (by omega) (by omega) ?_
    exact kk v z.2 f3 f4 _ _ _ hR hw (lv_sub hl [2, 3, 4, 5, 6, 7] rfl)
set_option maxHeartbeats 4000000 in
set_option maxRecDepth 100000 in
theorem lk_13 {p : Program} {l : Launch} {e : Env} {s : State} {m : MethodId} {below : List Frame} {meth : Method} {c : Code} {D : va_G} {cA cR cL cF : ClassId} {b L : Nat} {xs : Nat → Int32} {RR : Nat → V10 → V11 → Prop} {N : Nat} (hpu : PU_run RR N) (X : LX p l s m c b L xs D cA cR cL cF) {k0 s0 : Nat} (hk0 : k0 + 1 ≤ 601024) (hs0 : s0 + 6 ≤ 7293034) {cn : Nat} (hcn : cn < 512) {x5 : Int32} {p1 : Int32} (h1 : vp_in (x5 + 1) L) (e1 : xs (x5 + 1).toNatClampNeg = p1) {v : V10} {w : V11} {a0 : A10} {a1 : A11} {q3 q4 : Nat} {f3 : Nat → Int64} {f4 : Nat → UInt64} {H : Heap} {locs : List Loc} {ls : Array Slot} {Q : State → Prop} (hR : RR cn v w) (hw : ww (fun q : Nat => s.heap.size ≤ q) s.heap D [w10 cA cR a0 v, w11 cA a1 w, [(q3, .inl (cL, 1, .inr (.inl f3)))], [(q4, .inl (cF, 1, .inr (.inr (.inr (.inl f4)))))]] H locs) (hl : lv_has ls 9 [(0, .ref b), (1, .ref a0.1), (2, .ref a1.1), (3, .ref q3), (4, .ref q4), (5, .int x5)])
    (kk : ∀ (v : V10) (w : V11) (f3 : Nat → Int64) (f4 : Nat → UInt64) (H : Heap) (locs : List Loc) (ls : Array Slot), RR (cn + 1) v w → ww (fun q : Nat => s.heap.size ≤ q) s.heap D [w10 cA cR a0 v, w11 cA a1 w, [(q3, .inl (cL, 1, .inr (.inl f3)))], [(q4, .inl (cF, 1, .inr (.inr (.inr (.inl f4)))))]] H locs → lv_has ls 9 [(0, .ref b), (1, .ref a0.1), (2, .ref a1.1), (3, .ref q3), (4, .ref q4), (5, .int x5)] → W p l e room_1 s m #[Value.ref b] below meth c H locs (k0 + 1) (s0 + 6) Q (F0 m 1547 ls [])) : W p l e room_1 s m #[Value.ref b] below meth c H locs k0 s0 Q (F0 m 923 ls []) := by
  obtain ⟨hx, hb, hml, hown, hts, hX, hbl, hz, hzl, hzx, hlt⟩ := X
  have hA : ∀ q : Nat, s.heap.size ≤ q → (fun q : Nat => s.heap.size ≤ q) q := fun _ h => h
  have hbA : ¬ (fun q : Nat => s.heap.size ≤ q) b := Nat.not_le.mpr hbl
  rcases hpu cn v w p1 hcn hR with ⟨u, z, hu, hz1, hth, hret, hR⟩ | ⟨z, hu, hz1, hth, hR⟩
  · skip
    refine lv_aload_n hx hb dL_law_923 rfl (lv_at hl 1 rfl) ?_
    refine lv_aload_n hx hb dL_law_924 rfl (lv_at hl 0 rfl) ?_
    refine lv_iload hx hb dL_law_925 (lv_at hl 5 rfl) ?_
    refine lv_iconst (v := 1) hx hb dL_law_927 (by decide) ?_
    refine lv_iadd hx hb dL_law_928 ?_
    refine va_sld hx hb hX hbl hbA hw.2.2 h1 dL_law_929 ?_
    refine lv_topi (fun y ey => ?_)
    obtain rfl : p1 = y := (ey.trans e1).symm
    refine lv_aload_n hx hb dL_law_930 rfl (lv_at hl 3 rfl) ?_
    refine k_call (cs := [w10 cA cR a0 v, [(q3, .inl (cL, 1, .inr (.inl f3)))]]) (rs := [w11 cA a1 w, [(q4, .inl (cF, 1, .inr (.inr (.inr (.inl f4)))))]]) (cs1 := [w10 cA cR a0 u.2, [(q3, .inl (cL, 1, .inr (.inl (vp_updL f3 (0 : Int32).toNatClampNeg u.1.toInt64))))]]) (bs1 := [w10 cA cR a0 u.2, w11 cA a1 w, [(q3, .inl (cL, 1, .inr (.inl (vp_updL f3 (0 : Int32).toNatClampNeg u.1.toInt64))))], [(q4, .inl (cF, 1, .inr (.inr (.inr (.inl f4)))))]]) (rest := []) (st1 := [.int (0 : Int32)]) hw hA [0, 2] [1, 3] [2, 0, 3, 1] rfl rfl rfl rfl rfl (k_runL (nA := 3) (As := [.ref a0.1, .int p1, .ref q3]) (cs := [w10 cA cR a0 v, [(q3, .inl (cL, 1, .inr (.inl f3)))]]) (rs := [w11 cA a1 w, [(q4, .inl (cF, 1, .inr (.inr (.inr (.inl f4)))))]]) (rest := []) ⟨hx, hb, hml, hown, hts⟩ hz hzl hzx hw hA (mL_run l D cA cR cL cF N a0 v p1 q3 f3 u hu) gL_law_L_run rfl rfl rfl (by decide +kernel) rfl ⟨Nat.le_of_ble_eq_true rfl, Nat.le_of_ble_eq_true rfl⟩ hl.1 rfl (Nat.le_of_ble_eq_true rfl) dL_law_931 ⟨(by show _ ≤ 601024; omega), (by show _ ≤ 7293034; omega)⟩ [0, 2] [1, 3] rfl rfl rfl) rfl (fun H locs hw => ?_)
    refine lv_istore (lv' := [(6, .int (0 : Int32)), (0, .ref b), (1, .ref a0.1), (2, .ref a1.1), (3, .ref q3), (4, .ref q4), (5, .int x5)]) hx hb dL_law_934 hl (by decide) rfl (fun ls hl => ?_)
    refine lv_aload_n hx hb dL_law_936 rfl (lv_at hl 3 rfl) ?_
    refine lv_aload_n hx hb dL_law_937 rfl (lv_at hl 1 rfl) ?_
    refine lv_iload hx hb dL_law_938 (lv_at hl 6 rfl) ?_
    refine lv_iconst (v := 1) hx hb dL_law_940 (by decide) ?_
    refine lv_iadd hx hb dL_law_941 ?_
    refine va_sld hx hb hX hbl hbA hw.2.2 h1 dL_law_942 ?_
    refine lv_topi (fun y ey => ?_)
    obtain rfl : p1 = y := (ey.trans e1).symm
    refine k_callV (ci := 11) (C := RX11) (T := TX11) (N := 14) (nA := 1) (As := [.int p1]) (cs := [w11 cA a1 w]) (rs := [w10 cA cR a0 u.2, [(q3, .inl (cL, 1, .inr (.inl (vp_updL f3 (0 : Int32).toNatClampNeg u.1.toInt64))))], [(q4, .inl (cF, 1, .inr (.inr (.inr (.inl f4)))))]]) (cs1 := [w11 cA a1 z.2]) (bs1 := [w10 cA cR a0 u.2, w11 cA a1 z.2, [(q3, .inl (cL, 1, .inr (.inl (vp_updL f3 (0 : Int32).toNatClampNeg u.1.toInt64))))], [(q4, .inl (cF, 1, .inr (.inr (.inr (.inl f4)))))]]) (rest := []) (st1 := [.int z.1]) ⟨hx, hb, hml, hown, hts⟩ hz hw hA (mX11_run l D cA cR N a1 w p1 z hz1) gL_law_X11_run rfl rfl rfl (by decide +kernel) rfl ⟨Nat.le_of_ble_eq_true rfl, Nat.le_of_ble_eq_true rfl⟩ rfl rfl hl.1 rfl (Nat.le_of_ble_eq_true rfl) dL_law_943 ⟨(by show _ ≤ 601024; omega), (by show _ ≤ 7293034; omega)⟩ [1] [0, 2, 3] [0, 3, 1, 2] rfl rfl rfl rfl rfl rfl (fun H locs hw => ?_)
    refine lv_istore (lv' := [(7, .int z.1), (6, .int (0 : Int32)), (0, .ref b), (1, .ref a0.1), (2, .ref a1.1), (3, .ref q3), (4, .ref q4), (5, .int x5)]) hx hb dL_law_946 hl (by decide) rfl (fun ls hl => ?_)
    refine lv_aload_n hx hb dL_law_948 rfl (lv_at hl 4 rfl) ?_
    refine k_callV (ci := 11) (C := RX11) (T := TX11) (N := 14) (nA := 0) (As := []) (cs := [w11 cA a1 z.2]) (rs := [w10 cA cR a0 u.2, [(q3, .inl (cL, 1, .inr (.inl (vp_updL f3 (0 : Int32).toNatClampNeg u.1.toInt64))))], [(q4, .inl (cF, 1, .inr (.inr (.inr (.inl f4)))))]]) (cs1 := [w11 cA a1 z.2]) (bs1 := [w10 cA cR a0 u.2, w11 cA a1 z.2, [(q3, .inl (cL, 1, .inr (.inl (vp_updL f3 (0 : Int32).toNatClampNeg u.1.toInt64))))], [(q4, .inl (cF, 1, .inr (.inr (.inr (.inl f4)))))]]) (rest := []) (st1 := [.int z.2.2.2.2.1]) ⟨hx, hb, hml, hown, hts⟩ hz hw hA (mX11_thrown l D cA cR a1 z.2 (z.2.2.2.2.1) rfl) gL_law_X11_thrown rfl rfl rfl (by decide +kernel) rfl ⟨Nat.le_of_ble_eq_true rfl, Nat.le_of_ble_eq_true rfl⟩ rfl rfl hl.1 rfl (Nat.le_of_ble_eq_true rfl) dL_law_949 ⟨(by show _ ≤ 601024; omega), (by show _ ≤ 7293034; omega)⟩ [1] [0, 2, 3] [0, 3, 1, 2] rfl rfl rfl rfl rfl rfl (fun H locs hw => ?_)
    refine lv_iload hx hb dL_law_952 (lv_at hl 1 rfl) ?_
    refine lv_icmp_eq (tgt := 959) hx hb dL_law_954 (by decide) (fun _ => ?_) (fun cc => absurd hth cc)
    refine lv_iload hx hb dL_law_959 (lv_at hl 1 rfl) ?_
    refine lv_if_ne (tgt := 976) hx hb dL_law_961 (by decide) (fun cc => absurd rfl cc) (fun _ => ?_)
    refine lv_aload_n hx hb dL_law_964 rfl (lv_at hl 5 rfl) ?_
    refine lv_iconst (v := 0) hx hb dL_law_965 (by decide) ?_
    refine k_lald hx hb hzl hw 2 rfl (by unfold vp_in; decide) dL_law_966 ?_
    refine lv_iload hx hb dL_law_967 (lv_at hl 0 rfl) ?_
    refine lv_i2l hx hb dL_law_969 rfl ?_
    refine W.lcmp hx hb dL_law_970 ?_
    refine lv_if_eq (tgt := 976) hx hb dL_law_971 (by decide) (fun _ => ?_) (fun cc => absurd (lcmp_same (by rw [← hret]; exact pk_uLs)) cc)
    refine lv_goto (tgt := 1547) hx hb dL_law_976 (by decide) ?_
    refine W.widen (k := k0 + 1) (n := s0 + 6) (by omega) (by omega) ?_
    exact kk u.2 z.2 (vp_updL f3 (0 : Int32).toNatClampNeg u.1.toInt64) f4 _ _ _ hR hw (lv_sub hl [2, 3, 4, 5, 6, 7] rfl)
  · skip
    refine lv_aload_n hx hb dL_law_923 rfl (lv_at hl 1 rfl) ?_
    refine lv_aload_n hx hb dL_law_924 rfl (lv_at hl 0 rfl) ?_
    refine lv_iload hx hb dL_law_925 (lv_at hl 5 rfl) ?_
    refine lv_iconst (v := 1) hx hb dL_law_927 (by decide) ?_
    refine lv_iadd hx hb dL_law_928 ?_
    refine va_sld hx hb hX hbl hbA hw.2.2 h1 dL_law_929 ?_
    refine lv_topi (fun y ey => ?_)
    obtain rfl : p1 = y := (ey.trans e1).symm
    refine lv_aload_n hx hb dL_law_930 rfl (lv_at hl 3 rfl) ?_
    refine k_call (cs := [w10 cA cR a0 v, [(q3, .inl (cL, 1, .inr (.inl f3)))]]) (rs := [w11 cA a1 w, [(q4, .inl (cF, 1, .inr (.inr (.inr (.inl f4)))))]]) (cs1 := [w10 cA cR a0 v, [(q3, .inl (cL, 1, .inr (.inl f3)))]]) (bs1 := [w10 cA cR a0 v, w11 cA a1 w, [(q3, .inl (cL, 1, .inr (.inl f3)))], [(q4, .inl (cF, 1, .inr (.inr (.inr (.inl f4)))))]]) (rest := []) (st1 := [.int (1 : Int32)]) hw hA [0, 2] [1, 3] [2, 0, 3, 1] rfl rfl rfl rfl rfl (k_runL (nA := 3) (As := [.ref a0.1, .int p1, .ref q3]) (cs := [w10 cA cR a0 v, [(q3, .inl (cL, 1, .inr (.inl f3)))]]) (rs := [w11 cA a1 w, [(q4, .inl (cF, 1, .inr (.inr (.inr (.inl f4)))))]]) (rest := []) ⟨hx, hb, hml, hown, hts⟩ hz hzl hzx hw hA (t0L_run l hlt D cA cR cL cF N a0 v p1 q3 f3 hu) gL_law_L_run rfl rfl rfl (by decide +kernel) rfl ⟨Nat.le_of_ble_eq_true rfl, Nat.le_of_ble_eq_true rfl⟩ hl.1 rfl (Nat.le_of_ble_eq_true rfl) dL_law_931 ⟨(by show _ ≤ 601024; omega), (by show _ ≤ 7293034; omega)⟩ [0, 2] [1, 3] rfl rfl rfl) rfl (fun H locs hw => ?_)
    refine lv_istore (lv' := [(6, .int (1 : Int32)), (0, .ref b), (1, .ref a0.1), (2, .ref a1.1), (3, .ref q3), (4, .ref q4), (5, .int x5)]) hx hb dL_law_934 hl (by decide) rfl (fun ls hl => ?_)
    refine lv_aload_n hx hb dL_law_936 rfl (lv_at hl 3 rfl) ?_
    refine lv_aload_n hx hb dL_law_937 rfl (lv_at hl 1 rfl) ?_
    refine lv_iload hx hb dL_law_938 (lv_at hl 6 rfl) ?_
    refine lv_iconst (v := 1) hx hb dL_law_940 (by decide) ?_
    refine lv_iadd hx hb dL_law_941 ?_
    refine va_sld hx hb hX hbl hbA hw.2.2 h1 dL_law_942 ?_
    refine lv_topi (fun y ey => ?_)
    obtain rfl : p1 = y := (ey.trans e1).symm
    refine k_callV (ci := 11) (C := RX11) (T := TX11) (N := 14) (nA := 1) (As := [.int p1]) (cs := [w11 cA a1 w]) (rs := [w10 cA cR a0 v, [(q3, .inl (cL, 1, .inr (.inl f3)))], [(q4, .inl (cF, 1, .inr (.inr (.inr (.inl f4)))))]]) (cs1 := [w11 cA a1 z.2]) (bs1 := [w10 cA cR a0 v, w11 cA a1 z.2, [(q3, .inl (cL, 1, .inr (.inl f3)))], [(q4, .inl (cF, 1, .inr (.inr (.inr (.inl f4)))))]]) (rest := []) (st1 := [.int z.1]) ⟨hx, hb, hml, hown, hts⟩ hz hw hA (mX11_run l D cA cR N a1 w p1 z hz1) gL_law_X11_run rfl rfl rfl (by decide +kernel) rfl ⟨Nat.le_of_ble_eq_true rfl, Nat.le_of_ble_eq_true rfl⟩ rfl rfl hl.1 rfl (Nat.le_of_ble_eq_true rfl) dL_law_943 ⟨(by show _ ≤ 601024; omega), (by show _ ≤ 7293034; omega)⟩ [1] [0, 2, 3] [0, 3, 1, 2] rfl rfl rfl rfl rfl rfl (fun H locs hw => ?_)
    refine lv_istore (lv' := [(7, .int z.1), (6, .int (1 : Int32)), (0, .ref b), (1, .ref a0.1), (2, .ref a1.1), (3, .ref q3), (4, .ref q4), (5, .int x5)]) hx hb dL_law_946 hl (by decide) rfl (fun ls hl => ?_)
    refine lv_aload_n hx hb dL_law_948 rfl (lv_at hl 4 rfl) ?_
    refine k_callV (ci := 11) (C := RX11) (T := TX11) (N := 14) (nA := 0) (As := []) (cs := [w11 cA a1 z.2]) (rs := [w10 cA cR a0 v, [(q3, .inl (cL, 1, .inr (.inl f3)))], [(q4, .inl (cF, 1, .inr (.inr (.inr (.inl f4)))))]]) (cs1 := [w11 cA a1 z.2]) (bs1 := [w10 cA cR a0 v, w11 cA a1 z.2, [(q3, .inl (cL, 1, .inr (.inl f3)))], [(q4, .inl (cF, 1, .inr (.inr (.inr (.inl f4)))))]]) (rest := []) (st1 := [.int z.2.2.2.2.1]) ⟨hx, hb, hml, hown, hts⟩ hz hw hA (mX11_thrown l D cA cR a1 z.2 (z.2.2.2.2.1) rfl) gL_law_X11_thrown rfl rfl rfl (by decide +kernel) rfl ⟨Nat.le_of_ble_eq_true rfl, Nat.le_of_ble_eq_true rfl⟩ rfl rfl hl.1 rfl (Nat.le_of_ble_eq_true rfl) dL_law_949 ⟨(by show _ ≤ 601024; omega), (by show _ ≤ 7293034; omega)⟩ [1] [0, 2, 3] [0, 3, 1, 2] rfl rfl rfl rfl rfl rfl (fun H locs hw => ?_)
    refine lv_iload hx hb dL_law_952 (lv_at hl 1 rfl) ?_
    refine lv_icmp_eq (tgt := 959) hx hb dL_law_954 (by decide) (fun _ => ?_) (fun cc => absurd hth cc)
    refine lv_iload hx hb dL_law_959 (lv_at hl 1 rfl) ?_
    refine lv_if_ne (tgt := 976) hx hb dL_law_961 (by decide) (fun _ => ?_) (fun cc => absurd cc (by decide))
    refine lv_goto (tgt := 1547) hx hb dL_law_976 (by decide) ?_
    refine W.widen (k := k0 + 1) (n := s0 + 6) (by omega) (by omega) ?_
    exact kk v z.2 f3 f4 _ _ _ hR hw (lv_sub hl [2, 3, 4, 5, 6, 7] rfl)
set_option maxHeartbeats 4000000 in
set_option maxRecDepth 100000 in
theorem lk_14 {p : Program} {l : Launch} {e : Env} {s : State} {m : MethodId} {below : List Frame} {meth : Method} {c : Code} {D : va_G} {cA cR cL cF : ClassId} {b L : Nat} {xs : Nat → Int32} {RR : Nat → V10 → V11 → Prop} {N : Nat} (hpu : PU_presentStep RR N) (X : LX p l s m c b L xs D cA cR cL cF) {k0 s0 : Nat} (hk0 : k0 + 1 ≤ 601024) (hs0 : s0 + 6 ≤ 7293034) {cn : Nat} (hcn : cn < 512) {x5 : Int32} {v : V10} {w : V11} {a0 : A10} {a1 : A11} {q3 q4 : Nat} {f3 : Nat → Int64} {f4 : Nat → UInt64} {H : Heap} {locs : List Loc} {ls : Array Slot} {Q : State → Prop} (hR : RR cn v w) (hw : ww (fun q : Nat => s.heap.size ≤ q) s.heap D [w10 cA cR a0 v, w11 cA a1 w, [(q3, .inl (cL, 1, .inr (.inl f3)))], [(q4, .inl (cF, 1, .inr (.inr (.inr (.inl f4)))))]] H locs) (hl : lv_has ls 9 [(0, .ref b), (1, .ref a0.1), (2, .ref a1.1), (3, .ref q3), (4, .ref q4), (5, .int x5)])
    (kk : ∀ (v : V10) (w : V11) (f3 : Nat → Int64) (f4 : Nat → UInt64) (H : Heap) (locs : List Loc) (ls : Array Slot), RR (cn + 1) v w → ww (fun q : Nat => s.heap.size ≤ q) s.heap D [w10 cA cR a0 v, w11 cA a1 w, [(q3, .inl (cL, 1, .inr (.inl f3)))], [(q4, .inl (cF, 1, .inr (.inr (.inr (.inl f4)))))]] H locs → lv_has ls 9 [(0, .ref b), (1, .ref a0.1), (2, .ref a1.1), (3, .ref q3), (4, .ref q4), (5, .int x5)] → W p l e room_1 s m #[Value.ref b] below meth c H locs (k0 + 1) (s0 + 6) Q (F0 m 1547 ls [])) : W p l e room_1 s m #[Value.ref b] below meth c H locs k0 s0 Q (F0 m 979 ls []) := by
  obtain ⟨hx, hb, hml, hown, hts, hX, hbl, hz, hzl, hzx, hlt⟩ := X
  have hA : ∀ q : Nat, s.heap.size ≤ q → (fun q : Nat => s.heap.size ≤ q) q := fun _ h => h
  have hbA : ¬ (fun q : Nat => s.heap.size ≤ q) b := Nat.not_le.mpr hbl
  obtain ⟨u, z, hu, hz1, hret, hR⟩ := hpu cn v w hcn hR
  refine lv_aload_n hx hb dL_law_979 rfl (lv_at hl 1 rfl) ?_
  refine k_callV (ci := 10) (C := RX10) (T := TX10) (N := 7) (nA := 0) (As := []) (cs := [w10 cA cR a0 v]) (rs := [w11 cA a1 w, [(q3, .inl (cL, 1, .inr (.inl f3)))], [(q4, .inl (cF, 1, .inr (.inr (.inr (.inl f4)))))]]) (cs1 := [w10 cA cR a0 v]) (bs1 := [w10 cA cR a0 v, w11 cA a1 w, [(q3, .inl (cL, 1, .inr (.inl f3)))], [(q4, .inl (cF, 1, .inr (.inr (.inr (.inl f4)))))]]) (rest := []) (st1 := [.int u]) ⟨hx, hb, hml, hown, hts⟩ hz hw hA (mX10_presentStep l D cA cR a0 v u hu) gL_law_X10_presentStep rfl rfl rfl (by decide +kernel) rfl ⟨Nat.le_of_ble_eq_true rfl, Nat.le_of_ble_eq_true rfl⟩ rfl rfl hl.1 rfl (Nat.le_of_ble_eq_true rfl) dL_law_980 ⟨(by show _ ≤ 601024; omega), (by show _ ≤ 7293034; omega)⟩ [0] [1, 2, 3] [3, 0, 1, 2] rfl rfl rfl rfl rfl rfl (fun H locs hw => ?_)
  refine lv_aload_n hx hb dL_law_983 rfl (lv_at hl 2 rfl) ?_
  refine k_callV (ci := 11) (C := RX11) (T := TX11) (N := 14) (nA := 0) (As := []) (cs := [w11 cA a1 w]) (rs := [w10 cA cR a0 v, [(q3, .inl (cL, 1, .inr (.inl f3)))], [(q4, .inl (cF, 1, .inr (.inr (.inr (.inl f4)))))]]) (cs1 := [w11 cA a1 z.2]) (bs1 := [w10 cA cR a0 v, w11 cA a1 z.2, [(q3, .inl (cL, 1, .inr (.inl f3)))], [(q4, .inl (cF, 1, .inr (.inr (.inr (.inl f4)))))]]) (rest := [.int u]) (st1 := [.int z.1, .int u]) ⟨hx, hb, hml, hown, hts⟩ hz hw hA (mX11_presentStep l D cA cR a1 w z hz1) gL_law_X11_presentStep rfl rfl rfl (by decide +kernel) rfl ⟨Nat.le_of_ble_eq_true rfl, Nat.le_of_ble_eq_true rfl⟩ rfl rfl hl.1 rfl (Nat.le_of_ble_eq_true rfl) dL_law_984 ⟨(by show _ ≤ 601024; omega), (by show _ ≤ 7293034; omega)⟩ [1] [0, 2, 3] [0, 3, 1, 2] rfl rfl rfl rfl rfl rfl (fun H locs hw => ?_)
  refine lv_icmp_eq (tgt := 1547) hx hb dL_law_987 (by decide) (fun _ => ?_) (fun cc => absurd hret cc)
  refine W.widen (k := k0 + 1) (n := s0 + 6) (by omega) (by omega) ?_
  exact kk v z.2 f3 f4 _ _ _ hR hw hl
set_option maxHeartbeats 4000000 in
set_option maxRecDepth 100000 in
theorem lk_15 {p : Program} {l : Launch} {e : Env} {s : State} {m : MethodId} {below : List Frame} {meth : Method} {c : Code} {D : va_G} {cA cR cL cF : ClassId} {b L : Nat} {xs : Nat → Int32} {RR : Nat → V10 → V11 → Prop} {N : Nat} (hpu : PU_level RR N) (X : LX p l s m c b L xs D cA cR cL cF) {k0 s0 : Nat} (hk0 : k0 + 1 ≤ 601024) (hs0 : s0 + 6 ≤ 7293034) {cn : Nat} (hcn : cn < 512) {x5 : Int32} {p1 : Int32} (h1 : vp_in (x5 + 1) L) (e1 : xs (x5 + 1).toNatClampNeg = p1) {v : V10} {w : V11} {a0 : A10} {a1 : A11} {q3 q4 : Nat} {f3 : Nat → Int64} {f4 : Nat → UInt64} {H : Heap} {locs : List Loc} {ls : Array Slot} {Q : State → Prop} (hR : RR cn v w) (hw : ww (fun q : Nat => s.heap.size ≤ q) s.heap D [w10 cA cR a0 v, w11 cA a1 w, [(q3, .inl (cL, 1, .inr (.inl f3)))], [(q4, .inl (cF, 1, .inr (.inr (.inr (.inl f4)))))]] H locs) (hl : lv_has ls 9 [(0, .ref b), (1, .ref a0.1), (2, .ref a1.1), (3, .ref q3), (4, .ref q4), (5, .int x5)])
    (kk : ∀ (v : V10) (w : V11) (f3 : Nat → Int64) (f4 : Nat → UInt64) (H : Heap) (locs : List Loc) (ls : Array Slot), RR (cn + 1) v w → ww (fun q : Nat => s.heap.size ≤ q) s.heap D [w10 cA cR a0 v, w11 cA a1 w, [(q3, .inl (cL, 1, .inr (.inl f3)))], [(q4, .inl (cF, 1, .inr (.inr (.inr (.inl f4)))))]] H locs → lv_has ls 9 [(0, .ref b), (1, .ref a0.1), (2, .ref a1.1), (3, .ref q3), (4, .ref q4), (5, .int x5)] → W p l e room_1 s m #[Value.ref b] below meth c H locs (k0 + 1) (s0 + 6) Q (F0 m 1547 ls [])) : W p l e room_1 s m #[Value.ref b] below meth c H locs k0 s0 Q (F0 m 992 ls []) := by
  obtain ⟨hx, hb, hml, hown, hts, hX, hbl, hz, hzl, hzx, hlt⟩ := X
  have hA : ∀ q : Nat, s.heap.size ≤ q → (fun q : Nat => s.heap.size ≤ q) q := fun _ h => h
  have hbA : ¬ (fun q : Nat => s.heap.size ≤ q) b := Nat.not_le.mpr hbl
  rcases hpu cn v w p1 hcn hR with ⟨u, z, hu, hz1, hth, hret, hR⟩ | ⟨z, hu, hz1, hth, hR⟩
  · skip
    refine lv_aload_n hx hb dL_law_992 rfl (lv_at hl 1 rfl) ?_
    refine lv_aload_n hx hb dL_law_993 rfl (lv_at hl 0 rfl) ?_
    refine lv_iload hx hb dL_law_994 (lv_at hl 5 rfl) ?_
    refine lv_iconst (v := 1) hx hb dL_law_996 (by decide) ?_
    refine lv_iadd hx hb dL_law_997 ?_
    refine va_sld hx hb hX hbl hbA hw.2.2 h1 dL_law_998 ?_
    refine lv_topi (fun y ey => ?_)
    obtain rfl : p1 = y := (ey.trans e1).symm
    refine lv_aload_n hx hb dL_law_999 rfl (lv_at hl 3 rfl) ?_
    refine k_call (cs := [w10 cA cR a0 v, [(q3, .inl (cL, 1, .inr (.inl f3)))]]) (rs := [w11 cA a1 w, [(q4, .inl (cF, 1, .inr (.inr (.inr (.inl f4)))))]]) (cs1 := [w10 cA cR a0 u.2, [(q3, .inl (cL, 1, .inr (.inl (vp_updL f3 (0 : Int32).toNatClampNeg u.1.toInt64))))]]) (bs1 := [w10 cA cR a0 u.2, w11 cA a1 w, [(q3, .inl (cL, 1, .inr (.inl (vp_updL f3 (0 : Int32).toNatClampNeg u.1.toInt64))))], [(q4, .inl (cF, 1, .inr (.inr (.inr (.inl f4)))))]]) (rest := []) (st1 := [.int (0 : Int32)]) hw hA [0, 2] [1, 3] [2, 0, 3, 1] rfl rfl rfl rfl rfl (k_runL (nA := 3) (As := [.ref a0.1, .int p1, .ref q3]) (cs := [w10 cA cR a0 v, [(q3, .inl (cL, 1, .inr (.inl f3)))]]) (rs := [w11 cA a1 w, [(q4, .inl (cF, 1, .inr (.inr (.inr (.inl f4)))))]]) (rest := []) ⟨hx, hb, hml, hown, hts⟩ hz hzl hzx hw hA (mL_level l D cA cR cL cF N a0 v p1 q3 f3 u hu) gL_law_L_level rfl rfl rfl (by decide +kernel) rfl ⟨Nat.le_of_ble_eq_true rfl, Nat.le_of_ble_eq_true rfl⟩ hl.1 rfl (Nat.le_of_ble_eq_true rfl) dL_law_1000 ⟨(by show _ ≤ 601024; omega), (by show _ ≤ 7293034; omega)⟩ [0, 2] [1, 3] rfl rfl rfl) rfl (fun H locs hw => ?_)
    refine lv_istore (lv' := [(6, .int (0 : Int32)), (0, .ref b), (1, .ref a0.1), (2, .ref a1.1), (3, .ref q3), (4, .ref q4), (5, .int x5)]) hx hb dL_law_1003 hl (by decide) rfl (fun ls hl => ?_)
    refine lv_aload_n hx hb dL_law_1005 rfl (lv_at hl 3 rfl) ?_
    refine lv_aload_n hx hb dL_law_1006 rfl (lv_at hl 1 rfl) ?_
    refine lv_iload hx hb dL_law_1007 (lv_at hl 6 rfl) ?_
    refine lv_iconst (v := 1) hx hb dL_law_1009 (by decide) ?_
    refine lv_iadd hx hb dL_law_1010 ?_
    refine va_sld hx hb hX hbl hbA hw.2.2 h1 dL_law_1011 ?_
    refine lv_topi (fun y ey => ?_)
    obtain rfl : p1 = y := (ey.trans e1).symm
    refine k_callV (ci := 11) (C := RX11) (T := TX11) (N := 14) (nA := 1) (As := [.int p1]) (cs := [w11 cA a1 w]) (rs := [w10 cA cR a0 u.2, [(q3, .inl (cL, 1, .inr (.inl (vp_updL f3 (0 : Int32).toNatClampNeg u.1.toInt64))))], [(q4, .inl (cF, 1, .inr (.inr (.inr (.inl f4)))))]]) (cs1 := [w11 cA a1 z.2]) (bs1 := [w10 cA cR a0 u.2, w11 cA a1 z.2, [(q3, .inl (cL, 1, .inr (.inl (vp_updL f3 (0 : Int32).toNatClampNeg u.1.toInt64))))], [(q4, .inl (cF, 1, .inr (.inr (.inr (.inl f4)))))]]) (rest := []) (st1 := [.int z.1]) ⟨hx, hb, hml, hown, hts⟩ hz hw hA (mX11_level l D cA cR N a1 w p1 z hz1) gL_law_X11_level rfl rfl rfl (by decide +kernel) rfl ⟨Nat.le_of_ble_eq_true rfl, Nat.le_of_ble_eq_true rfl⟩ rfl rfl hl.1 rfl (Nat.le_of_ble_eq_true rfl) dL_law_1012 ⟨(by show _ ≤ 601024; omega), (by show _ ≤ 7293034; omega)⟩ [1] [0, 2, 3] [0, 3, 1, 2] rfl rfl rfl rfl rfl rfl (fun H locs hw => ?_)
    refine lv_istore (lv' := [(7, .int z.1), (6, .int (0 : Int32)), (0, .ref b), (1, .ref a0.1), (2, .ref a1.1), (3, .ref q3), (4, .ref q4), (5, .int x5)]) hx hb dL_law_1015 hl (by decide) rfl (fun ls hl => ?_)
    refine lv_aload_n hx hb dL_law_1017 rfl (lv_at hl 4 rfl) ?_
    refine k_callV (ci := 11) (C := RX11) (T := TX11) (N := 14) (nA := 0) (As := []) (cs := [w11 cA a1 z.2]) (rs := [w10 cA cR a0 u.2, [(q3, .inl (cL, 1, .inr (.inl (vp_updL f3 (0 : Int32).toNatClampNeg u.1.toInt64))))], [(q4, .inl (cF, 1, .inr (.inr (.inr (.inl f4)))))]]) (cs1 := [w11 cA a1 z.2]) (bs1 := [w10 cA cR a0 u.2, w11 cA a1 z.2, [(q3, .inl (cL, 1, .inr (.inl (vp_updL f3 (0 : Int32).toNatClampNeg u.1.toInt64))))], [(q4, .inl (cF, 1, .inr (.inr (.inr (.inl f4)))))]]) (rest := []) (st1 := [.int z.2.2.2.2.1]) ⟨hx, hb, hml, hown, hts⟩ hz hw hA (mX11_thrown l D cA cR a1 z.2 (z.2.2.2.2.1) rfl) gL_law_X11_thrown rfl rfl rfl (by decide +kernel) rfl ⟨Nat.le_of_ble_eq_true rfl, Nat.le_of_ble_eq_true rfl⟩ rfl rfl hl.1 rfl (Nat.le_of_ble_eq_true rfl) dL_law_1018 ⟨(by show _ ≤ 601024; omega), (by show _ ≤ 7293034; omega)⟩ [1] [0, 2, 3] [0, 3, 1, 2] rfl rfl rfl rfl rfl rfl (fun H locs hw => ?_)
    refine lv_iload hx hb dL_law_1021 (lv_at hl 1 rfl) ?_
    refine lv_icmp_eq (tgt := 1028) hx hb dL_law_1023 (by decide) (fun _ => ?_) (fun cc => absurd hth cc)
    refine lv_iload hx hb dL_law_1028 (lv_at hl 1 rfl) ?_
    refine lv_if_ne (tgt := 1045) hx hb dL_law_1030 (by decide) (fun cc => absurd rfl cc) (fun _ => ?_)
    refine lv_aload_n hx hb dL_law_1033 rfl (lv_at hl 5 rfl) ?_
    refine lv_iconst (v := 0) hx hb dL_law_1034 (by decide) ?_
    refine k_lald hx hb hzl hw 2 rfl (by unfold vp_in; decide) dL_law_1035 ?_
    refine lv_iload hx hb dL_law_1036 (lv_at hl 0 rfl) ?_
    refine lv_i2l hx hb dL_law_1038 rfl ?_
    refine W.lcmp hx hb dL_law_1039 ?_
    refine lv_if_eq (tgt := 1045) hx hb dL_law_1040 (by decide) (fun _ => ?_) (fun cc => absurd (lcmp_same (by rw [← hret]; exact pk_uLs)) cc)
    refine lv_goto (tgt := 1547) hx hb dL_law_1045 (by decide) ?_
    refine W.widen (k := k0 + 1) (n := s0 + 6) (by omega) (by omega) ?_
    exact kk u.2 z.2 (vp_updL f3 (0 : Int32).toNatClampNeg u.1.toInt64) f4 _ _ _ hR hw (lv_sub hl [2, 3, 4, 5, 6, 7] rfl)
  · skip
    refine lv_aload_n hx hb dL_law_992 rfl (lv_at hl 1 rfl) ?_
    refine lv_aload_n hx hb dL_law_993 rfl (lv_at hl 0 rfl) ?_
    refine lv_iload hx hb dL_law_994 (lv_at hl 5 rfl) ?_
    refine lv_iconst (v := 1) hx hb dL_law_996 (by decide) ?_
    refine lv_iadd hx hb dL_law_997 ?_
    refine va_sld hx hb hX hbl hbA hw.2.2 h1 dL_law_998 ?_
    refine lv_topi (fun y ey => ?_)
    obtain rfl : p1 = y := (ey.trans e1).symm
    refine lv_aload_n hx hb dL_law_999 rfl (lv_at hl 3 rfl) ?_
    refine k_call (cs := [w10 cA cR a0 v, [(q3, .inl (cL, 1, .inr (.inl f3)))]]) (rs := [w11 cA a1 w, [(q4, .inl (cF, 1, .inr (.inr (.inr (.inl f4)))))]]) (cs1 := [w10 cA cR a0 v, [(q3, .inl (cL, 1, .inr (.inl f3)))]]) (bs1 := [w10 cA cR a0 v, w11 cA a1 w, [(q3, .inl (cL, 1, .inr (.inl f3)))], [(q4, .inl (cF, 1, .inr (.inr (.inr (.inl f4)))))]]) (rest := []) (st1 := [.int (1 : Int32)]) hw hA [0, 2] [1, 3] [2, 0, 3, 1] rfl rfl rfl rfl rfl (k_runL (nA := 3) (As := [.ref a0.1, .int p1, .ref q3]) (cs := [w10 cA cR a0 v, [(q3, .inl (cL, 1, .inr (.inl f3)))]]) (rs := [w11 cA a1 w, [(q4, .inl (cF, 1, .inr (.inr (.inr (.inl f4)))))]]) (rest := []) ⟨hx, hb, hml, hown, hts⟩ hz hzl hzx hw hA (t0L_level l hlt D cA cR cL cF N a0 v p1 q3 f3 hu) gL_law_L_level rfl rfl rfl (by decide +kernel) rfl ⟨Nat.le_of_ble_eq_true rfl, Nat.le_of_ble_eq_true rfl⟩ hl.1 rfl (Nat.le_of_ble_eq_true rfl) dL_law_1000 ⟨(by show _ ≤ 601024; omega), (by show _ ≤ 7293034; omega)⟩ [0, 2] [1, 3] rfl rfl rfl) rfl (fun H locs hw => ?_)
    refine lv_istore (lv' := [(6, .int (1 : Int32)), (0, .ref b), (1, .ref a0.1), (2, .ref a1.1), (3, .ref q3), (4, .ref q4), (5, .int x5)]) hx hb dL_law_1003 hl (by decide) rfl (fun ls hl => ?_)
    refine lv_aload_n hx hb dL_law_1005 rfl (lv_at hl 3 rfl) ?_
    refine lv_aload_n hx hb dL_law_1006 rfl (lv_at hl 1 rfl) ?_
    refine lv_iload hx hb dL_law_1007 (lv_at hl 6 rfl) ?_
    refine lv_iconst (v := 1) hx hb dL_law_1009 (by decide) ?_
    refine lv_iadd hx hb dL_law_1010 ?_
    refine va_sld hx hb hX hbl hbA hw.2.2 h1 dL_law_1011 ?_
    refine lv_topi (fun y ey => ?_)
    obtain rfl : p1 = y := (ey.trans e1).symm
    refine k_callV (ci := 11) (C := RX11) (T := TX11) (N := 14) (nA := 1) (As := [.int p1]) (cs := [w11 cA a1 w]) (rs := [w10 cA cR a0 v, [(q3, .inl (cL, 1, .inr (.inl f3)))], [(q4, .inl (cF, 1, .inr (.inr (.inr (.inl f4)))))]]) (cs1 := [w11 cA a1 z.2]) (bs1 := [w10 cA cR a0 v, w11 cA a1 z.2, [(q3, .inl (cL, 1, .inr (.inl f3)))], [(q4, .inl (cF, 1, .inr (.inr (.inr (.inl f4)))))]]) (rest := []) (st1 := [.int z.1]) ⟨hx, hb, hml, hown, hts⟩ hz hw hA (mX11_level l D cA cR N a1 w p1 z hz1) gL_law_X11_level rfl rfl rfl (by decide +kernel) rfl ⟨Nat.le_of_ble_eq_true rfl, Nat.le_of_ble_eq_true rfl⟩ rfl rfl hl.1 rfl (Nat.le_of_ble_eq_true rfl) dL_law_1012 ⟨(by show _ ≤ 601024; omega), (by show _ ≤ 7293034; omega)⟩ [1] [0, 2, 3] [0, 3, 1, 2] rfl rfl rfl rfl rfl rfl (fun H locs hw => ?_)
    refine lv_istore (lv' := [(7, .int z.1), (6, .int (1 : Int32)), (0, .ref b), (1, .ref a0.1), (2, .ref a1.1), (3, .ref q3), (4, .ref q4), (5, .int x5)]) hx hb dL_law_1015 hl (by decide) rfl (fun ls hl => ?_)
    refine lv_aload_n hx hb dL_law_1017 rfl (lv_at hl 4 rfl) ?_
    refine k_callV (ci := 11) (C := RX11) (T := TX11) (N := 14) (nA := 0) (As := []) (cs := [w11 cA a1 z.2]) (rs := [w10 cA cR a0 v, [(q3, .inl (cL, 1, .inr (.inl f3)))], [(q4, .inl (cF, 1, .inr (.inr (.inr (.inl f4)))))]]) (cs1 := [w11 cA a1 z.2]) (bs1 := [w10 cA cR a0 v, w11 cA a1 z.2, [(q3, .inl (cL, 1, .inr (.inl f3)))], [(q4, .inl (cF, 1, .inr (.inr (.inr (.inl f4)))))]]) (rest := []) (st1 := [.int z.2.2.2.2.1]) ⟨hx, hb, hml, hown, hts⟩ hz hw hA (mX11_thrown l D cA cR a1 z.2 (z.2.2.2.2.1) rfl) gL_law_X11_thrown rfl rfl rfl (by decide +kernel) rfl ⟨Nat.le_of_ble_eq_true rfl, Nat.le_of_ble_eq_true rfl⟩ rfl rfl hl.1 rfl (Nat.le_of_ble_eq_true rfl) dL_law_1018 ⟨(by show _ ≤ 601024; omega), (by show _ ≤ 7293034; omega)⟩ [1] [0, 2, 3] [0, 3, 1, 2] rfl rfl rfl rfl rfl rfl (fun H locs hw => ?_)
    refine lv_iload hx hb dL_law_1021 (lv_at hl 1 rfl) ?_
    refine lv_icmp_eq (tgt := 1028) hx hb dL_law_1023 (by decide) (fun _ => ?_) (fun cc => absurd hth cc)
    refine lv_iload hx hb dL_law_1028 (lv_at hl 1 rfl) ?_
    refine lv_if_ne (tgt := 1045) hx hb dL_law_1030 (by decide) (fun _ => ?_) (fun cc => absurd cc (by decide))
    refine lv_goto (tgt := 1547) hx hb dL_law_1045 (by decide) ?_
    refine W.widen (k := k0 + 1) (n := s0 + 6) (by omega) (by omega) ?_
    exact kk v z.2 f3 f4 _ _ _ hR hw (lv_sub hl [2, 3, 4, 5, 6, 7] rfl)
set_option maxHeartbeats 4000000 in
set_option maxRecDepth 100000 in
theorem lk_16 {p : Program} {l : Launch} {e : Env} {s : State} {m : MethodId} {below : List Frame} {meth : Method} {c : Code} {D : va_G} {cA cR cL cF : ClassId} {b L : Nat} {xs : Nat → Int32} {RR : Nat → V10 → V11 → Prop} {N : Nat} (hpu : PU_detector RR N) (X : LX p l s m c b L xs D cA cR cL cF) {k0 s0 : Nat} (hk0 : k0 + 1 ≤ 601024) (hs0 : s0 + 6 ≤ 7293034) {cn : Nat} (hcn : cn < 512) {x5 : Int32} {p1 : Int32} (h1 : vp_in (x5 + 1) L) (e1 : xs (x5 + 1).toNatClampNeg = p1) {p2 : Int32} (h2 : vp_in (x5 + 2) L) (e2 : xs (x5 + 2).toNatClampNeg = p2) {v : V10} {w : V11} {a0 : A10} {a1 : A11} {q3 q4 : Nat} {f3 : Nat → Int64} {f4 : Nat → UInt64} {H : Heap} {locs : List Loc} {ls : Array Slot} {Q : State → Prop} (hR : RR cn v w) (hw : ww (fun q : Nat => s.heap.size ≤ q) s.heap D [w10 cA cR a0 v, w11 cA a1 w, [(q3, .inl (cL, 1, .inr (.inl f3)))], [(q4, .inl (cF, 1, .inr (.inr (.inr (.inl f4)))))]] H locs) (hl : lv_has ls 9 [(0, .ref b), (1, .ref a0.1), (2, .ref a1.1), (3, .ref q3), (4, .ref q4), (5, .int x5)])
    (kk : ∀ (v : V10) (w : V11) (f3 : Nat → Int64) (f4 : Nat → UInt64) (H : Heap) (locs : List Loc) (ls : Array Slot), RR (cn + 1) v w → ww (fun q : Nat => s.heap.size ≤ q) s.heap D [w10 cA cR a0 v, w11 cA a1 w, [(q3, .inl (cL, 1, .inr (.inl f3)))], [(q4, .inl (cF, 1, .inr (.inr (.inr (.inl f4)))))]] H locs → lv_has ls 9 [(0, .ref b), (1, .ref a0.1), (2, .ref a1.1), (3, .ref q3), (4, .ref q4), (5, .int x5)] → W p l e room_1 s m #[Value.ref b] below meth c H locs (k0 + 1) (s0 + 6) Q (F0 m 1547 ls [])) : W p l e room_1 s m #[Value.ref b] below meth c H locs k0 s0 Q (F0 m 1048 ls []) := by
  obtain ⟨hx, hb, hml, hown, hts, hX, hbl, hz, hzl, hzx, hlt⟩ := X
  have hA : ∀ q : Nat, s.heap.size ≤ q → (fun q : Nat => s.heap.size ≤ q) q := fun _ h => h
  have hbA : ¬ (fun q : Nat => s.heap.size ≤ q) b := Nat.not_le.mpr hbl
  rcases hpu cn v w p1 p2 hcn hR with ⟨u, z, hu, hz1, hth, hret, hR⟩ | ⟨z, hu, hz1, hth, hR⟩ | ⟨z, hu, hz1, hth, hR⟩
  · skip
    refine lv_aload_n hx hb dL_law_1048 rfl (lv_at hl 1 rfl) ?_
    refine lv_aload_n hx hb dL_law_1049 rfl (lv_at hl 0 rfl) ?_
    refine lv_iload hx hb dL_law_1050 (lv_at hl 5 rfl) ?_
    refine lv_iconst (v := 1) hx hb dL_law_1052 (by decide) ?_
    refine lv_iadd hx hb dL_law_1053 ?_
    refine va_sld hx hb hX hbl hbA hw.2.2 h1 dL_law_1054 ?_
    refine lv_topi (fun y ey => ?_)
    obtain rfl : p1 = y := (ey.trans e1).symm
    refine lv_aload_n hx hb dL_law_1055 rfl (lv_at hl 0 rfl) ?_
    refine lv_iload hx hb dL_law_1056 (lv_at hl 5 rfl) ?_
    refine lv_iconst (v := 2) hx hb dL_law_1058 (by decide) ?_
    refine lv_iadd hx hb dL_law_1059 ?_
    refine va_sld hx hb hX hbl hbA hw.2.2 h2 dL_law_1060 ?_
    refine lv_topi (fun y ey => ?_)
    obtain rfl : p2 = y := (ey.trans e2).symm
    refine lv_aload_n hx hb dL_law_1061 rfl (lv_at hl 3 rfl) ?_
    refine k_call (cs := [w10 cA cR a0 v, [(q3, .inl (cL, 1, .inr (.inl f3)))]]) (rs := [w11 cA a1 w, [(q4, .inl (cF, 1, .inr (.inr (.inr (.inl f4)))))]]) (cs1 := [w10 cA cR a0 v, [(q3, .inl (cL, 1, .inr (.inl (vp_updL f3 (0 : Int32).toNatClampNeg u.toInt64))))]]) (bs1 := [w10 cA cR a0 v, w11 cA a1 w, [(q3, .inl (cL, 1, .inr (.inl (vp_updL f3 (0 : Int32).toNatClampNeg u.toInt64))))], [(q4, .inl (cF, 1, .inr (.inr (.inr (.inl f4)))))]]) (rest := []) (st1 := [.int (0 : Int32)]) hw hA [0, 2] [1, 3] [2, 0, 3, 1] rfl rfl rfl rfl rfl (k_runL (nA := 4) (As := [.ref a0.1, .int p1, .int p2, .ref q3]) (cs := [w10 cA cR a0 v, [(q3, .inl (cL, 1, .inr (.inl f3)))]]) (rs := [w11 cA a1 w, [(q4, .inl (cF, 1, .inr (.inr (.inr (.inl f4)))))]]) (rest := []) ⟨hx, hb, hml, hown, hts⟩ hz hzl hzx hw hA (mL_detector l D cA cR cL cF  a0 v p1 p2 q3 f3 u hu) gL_law_L_detector rfl rfl rfl (by decide +kernel) rfl ⟨Nat.le_of_ble_eq_true rfl, Nat.le_of_ble_eq_true rfl⟩ hl.1 rfl (Nat.le_of_ble_eq_true rfl) dL_law_1062 ⟨(by show _ ≤ 601024; omega), (by show _ ≤ 7293034; omega)⟩ [0, 2] [1, 3] rfl rfl rfl) rfl (fun H locs hw => ?_)
    refine lv_istore (lv' := [(6, .int (0 : Int32)), (0, .ref b), (1, .ref a0.1), (2, .ref a1.1), (3, .ref q3), (4, .ref q4), (5, .int x5)]) hx hb dL_law_1065 hl (by decide) rfl (fun ls hl => ?_)
    refine lv_aload_n hx hb dL_law_1067 rfl (lv_at hl 3 rfl) ?_
    refine lv_aload_n hx hb dL_law_1068 rfl (lv_at hl 1 rfl) ?_
    refine lv_iload hx hb dL_law_1069 (lv_at hl 6 rfl) ?_
    refine lv_iconst (v := 1) hx hb dL_law_1071 (by decide) ?_
    refine lv_iadd hx hb dL_law_1072 ?_
    refine va_sld hx hb hX hbl hbA hw.2.2 h1 dL_law_1073 ?_
    refine lv_topi (fun y ey => ?_)
    obtain rfl : p1 = y := (ey.trans e1).symm
    refine lv_aload_n hx hb dL_law_1074 rfl (lv_at hl 1 rfl) ?_
    refine lv_iload hx hb dL_law_1075 (lv_at hl 6 rfl) ?_
    refine lv_iconst (v := 2) hx hb dL_law_1077 (by decide) ?_
    refine lv_iadd hx hb dL_law_1078 ?_
    refine va_sld hx hb hX hbl hbA hw.2.2 h2 dL_law_1079 ?_
    refine lv_topi (fun y ey => ?_)
    obtain rfl : p2 = y := (ey.trans e2).symm
    refine k_callV (ci := 11) (C := RX11) (T := TX11) (N := 14) (nA := 2) (As := [.int p1, .int p2]) (cs := [w11 cA a1 w]) (rs := [w10 cA cR a0 v, [(q3, .inl (cL, 1, .inr (.inl (vp_updL f3 (0 : Int32).toNatClampNeg u.toInt64))))], [(q4, .inl (cF, 1, .inr (.inr (.inr (.inl f4)))))]]) (cs1 := [w11 cA a1 z.2]) (bs1 := [w10 cA cR a0 v, w11 cA a1 z.2, [(q3, .inl (cL, 1, .inr (.inl (vp_updL f3 (0 : Int32).toNatClampNeg u.toInt64))))], [(q4, .inl (cF, 1, .inr (.inr (.inr (.inl f4)))))]]) (rest := []) (st1 := [.int z.1]) ⟨hx, hb, hml, hown, hts⟩ hz hw hA (mX11_detector l D cA cR a1 w p1 p2 z hz1) gL_law_X11_detector rfl rfl rfl (by decide +kernel) rfl ⟨Nat.le_of_ble_eq_true rfl, Nat.le_of_ble_eq_true rfl⟩ rfl rfl hl.1 rfl (Nat.le_of_ble_eq_true rfl) dL_law_1080 ⟨(by show _ ≤ 601024; omega), (by show _ ≤ 7293034; omega)⟩ [1] [0, 2, 3] [0, 3, 1, 2] rfl rfl rfl rfl rfl rfl (fun H locs hw => ?_)
    refine lv_istore (lv' := [(7, .int z.1), (6, .int (0 : Int32)), (0, .ref b), (1, .ref a0.1), (2, .ref a1.1), (3, .ref q3), (4, .ref q4), (5, .int x5)]) hx hb dL_law_1083 hl (by decide) rfl (fun ls hl => ?_)
    refine lv_aload_n hx hb dL_law_1085 rfl (lv_at hl 4 rfl) ?_
    refine k_callV (ci := 11) (C := RX11) (T := TX11) (N := 14) (nA := 0) (As := []) (cs := [w11 cA a1 z.2]) (rs := [w10 cA cR a0 v, [(q3, .inl (cL, 1, .inr (.inl (vp_updL f3 (0 : Int32).toNatClampNeg u.toInt64))))], [(q4, .inl (cF, 1, .inr (.inr (.inr (.inl f4)))))]]) (cs1 := [w11 cA a1 z.2]) (bs1 := [w10 cA cR a0 v, w11 cA a1 z.2, [(q3, .inl (cL, 1, .inr (.inl (vp_updL f3 (0 : Int32).toNatClampNeg u.toInt64))))], [(q4, .inl (cF, 1, .inr (.inr (.inr (.inl f4)))))]]) (rest := []) (st1 := [.int z.2.2.2.2.1]) ⟨hx, hb, hml, hown, hts⟩ hz hw hA (mX11_thrown l D cA cR a1 z.2 (z.2.2.2.2.1) rfl) gL_law_X11_thrown rfl rfl rfl (by decide +kernel) rfl ⟨Nat.le_of_ble_eq_true rfl, Nat.le_of_ble_eq_true rfl⟩ rfl rfl hl.1 rfl (Nat.le_of_ble_eq_true rfl) dL_law_1086 ⟨(by show _ ≤ 601024; omega), (by show _ ≤ 7293034; omega)⟩ [1] [0, 2, 3] [0, 3, 1, 2] rfl rfl rfl rfl rfl rfl (fun H locs hw => ?_)
    refine lv_iload hx hb dL_law_1089 (lv_at hl 1 rfl) ?_
    refine lv_icmp_eq (tgt := 1096) hx hb dL_law_1091 (by decide) (fun _ => ?_) (fun cc => absurd hth cc)
    refine lv_iload hx hb dL_law_1096 (lv_at hl 1 rfl) ?_
    refine lv_if_ne (tgt := 1113) hx hb dL_law_1098 (by decide) (fun cc => absurd rfl cc) (fun _ => ?_)
    refine lv_aload_n hx hb dL_law_1101 rfl (lv_at hl 5 rfl) ?_
    refine lv_iconst (v := 0) hx hb dL_law_1102 (by decide) ?_
    refine k_lald hx hb hzl hw 2 rfl (by unfold vp_in; decide) dL_law_1103 ?_
    refine lv_iload hx hb dL_law_1104 (lv_at hl 0 rfl) ?_
    refine lv_i2l hx hb dL_law_1106 rfl ?_
    refine W.lcmp hx hb dL_law_1107 ?_
    refine lv_if_eq (tgt := 1113) hx hb dL_law_1108 (by decide) (fun _ => ?_) (fun cc => absurd (lcmp_same (by rw [← hret]; exact pk_uLs)) cc)
    refine lv_goto (tgt := 1547) hx hb dL_law_1113 (by decide) ?_
    refine W.widen (k := k0 + 1) (n := s0 + 6) (by omega) (by omega) ?_
    exact kk v z.2 (vp_updL f3 (0 : Int32).toNatClampNeg u.toInt64) f4 _ _ _ hR hw (lv_sub hl [2, 3, 4, 5, 6, 7] rfl)
  · skip
    refine lv_aload_n hx hb dL_law_1048 rfl (lv_at hl 1 rfl) ?_
    refine lv_aload_n hx hb dL_law_1049 rfl (lv_at hl 0 rfl) ?_
    refine lv_iload hx hb dL_law_1050 (lv_at hl 5 rfl) ?_
    refine lv_iconst (v := 1) hx hb dL_law_1052 (by decide) ?_
    refine lv_iadd hx hb dL_law_1053 ?_
    refine va_sld hx hb hX hbl hbA hw.2.2 h1 dL_law_1054 ?_
    refine lv_topi (fun y ey => ?_)
    obtain rfl : p1 = y := (ey.trans e1).symm
    refine lv_aload_n hx hb dL_law_1055 rfl (lv_at hl 0 rfl) ?_
    refine lv_iload hx hb dL_law_1056 (lv_at hl 5 rfl) ?_
    refine lv_iconst (v := 2) hx hb dL_law_1058 (by decide) ?_
    refine lv_iadd hx hb dL_law_1059 ?_
    refine va_sld hx hb hX hbl hbA hw.2.2 h2 dL_law_1060 ?_
    refine lv_topi (fun y ey => ?_)
    obtain rfl : p2 = y := (ey.trans e2).symm
    refine lv_aload_n hx hb dL_law_1061 rfl (lv_at hl 3 rfl) ?_
    refine k_call (cs := [w10 cA cR a0 v, [(q3, .inl (cL, 1, .inr (.inl f3)))]]) (rs := [w11 cA a1 w, [(q4, .inl (cF, 1, .inr (.inr (.inr (.inl f4)))))]]) (cs1 := [w10 cA cR a0 v, [(q3, .inl (cL, 1, .inr (.inl f3)))]]) (bs1 := [w10 cA cR a0 v, w11 cA a1 w, [(q3, .inl (cL, 1, .inr (.inl f3)))], [(q4, .inl (cF, 1, .inr (.inr (.inr (.inl f4)))))]]) (rest := []) (st1 := [.int (1 : Int32)]) hw hA [0, 2] [1, 3] [2, 0, 3, 1] rfl rfl rfl rfl rfl (k_runL (nA := 4) (As := [.ref a0.1, .int p1, .int p2, .ref q3]) (cs := [w10 cA cR a0 v, [(q3, .inl (cL, 1, .inr (.inl f3)))]]) (rs := [w11 cA a1 w, [(q4, .inl (cF, 1, .inr (.inr (.inr (.inl f4)))))]]) (rest := []) ⟨hx, hb, hml, hown, hts⟩ hz hzl hzx hw hA (t0L_detector l hlt D cA cR cL cF  a0 v p1 p2 q3 f3 hu) gL_law_L_detector rfl rfl rfl (by decide +kernel) rfl ⟨Nat.le_of_ble_eq_true rfl, Nat.le_of_ble_eq_true rfl⟩ hl.1 rfl (Nat.le_of_ble_eq_true rfl) dL_law_1062 ⟨(by show _ ≤ 601024; omega), (by show _ ≤ 7293034; omega)⟩ [0, 2] [1, 3] rfl rfl rfl) rfl (fun H locs hw => ?_)
    refine lv_istore (lv' := [(6, .int (1 : Int32)), (0, .ref b), (1, .ref a0.1), (2, .ref a1.1), (3, .ref q3), (4, .ref q4), (5, .int x5)]) hx hb dL_law_1065 hl (by decide) rfl (fun ls hl => ?_)
    refine lv_aload_n hx hb dL_law_1067 rfl (lv_at hl 3 rfl) ?_
    refine lv_aload_n hx hb dL_law_1068 rfl (lv_at hl 1 rfl) ?_
    refine lv_iload hx hb dL_law_1069 (lv_at hl 6 rfl) ?_
    refine lv_iconst (v := 1) hx hb dL_law_1071 (by decide) ?_
    refine lv_iadd hx hb dL_law_1072 ?_
    refine va_sld hx hb hX hbl hbA hw.2.2 h1 dL_law_1073 ?_
    refine lv_topi (fun y ey => ?_)
    obtain rfl : p1 = y := (ey.trans e1).symm
    refine lv_aload_n hx hb dL_law_1074 rfl (lv_at hl 1 rfl) ?_
    refine lv_iload hx hb dL_law_1075 (lv_at hl 6 rfl) ?_
    refine lv_iconst (v := 2) hx hb dL_law_1077 (by decide) ?_
    refine lv_iadd hx hb dL_law_1078 ?_
    refine va_sld hx hb hX hbl hbA hw.2.2 h2 dL_law_1079 ?_
    refine lv_topi (fun y ey => ?_)
    obtain rfl : p2 = y := (ey.trans e2).symm
    refine k_callV (ci := 11) (C := RX11) (T := TX11) (N := 14) (nA := 2) (As := [.int p1, .int p2]) (cs := [w11 cA a1 w]) (rs := [w10 cA cR a0 v, [(q3, .inl (cL, 1, .inr (.inl f3)))], [(q4, .inl (cF, 1, .inr (.inr (.inr (.inl f4)))))]]) (cs1 := [w11 cA a1 z.2]) (bs1 := [w10 cA cR a0 v, w11 cA a1 z.2, [(q3, .inl (cL, 1, .inr (.inl f3)))], [(q4, .inl (cF, 1, .inr (.inr (.inr (.inl f4)))))]]) (rest := []) (st1 := [.int z.1]) ⟨hx, hb, hml, hown, hts⟩ hz hw hA (mX11_detector l D cA cR a1 w p1 p2 z hz1) gL_law_X11_detector rfl rfl rfl (by decide +kernel) rfl ⟨Nat.le_of_ble_eq_true rfl, Nat.le_of_ble_eq_true rfl⟩ rfl rfl hl.1 rfl (Nat.le_of_ble_eq_true rfl) dL_law_1080 ⟨(by show _ ≤ 601024; omega), (by show _ ≤ 7293034; omega)⟩ [1] [0, 2, 3] [0, 3, 1, 2] rfl rfl rfl rfl rfl rfl (fun H locs hw => ?_)
    refine lv_istore (lv' := [(7, .int z.1), (6, .int (1 : Int32)), (0, .ref b), (1, .ref a0.1), (2, .ref a1.1), (3, .ref q3), (4, .ref q4), (5, .int x5)]) hx hb dL_law_1083 hl (by decide) rfl (fun ls hl => ?_)
    refine lv_aload_n hx hb dL_law_1085 rfl (lv_at hl 4 rfl) ?_
    refine k_callV (ci := 11) (C := RX11) (T := TX11) (N := 14) (nA := 0) (As := []) (cs := [w11 cA a1 z.2]) (rs := [w10 cA cR a0 v, [(q3, .inl (cL, 1, .inr (.inl f3)))], [(q4, .inl (cF, 1, .inr (.inr (.inr (.inl f4)))))]]) (cs1 := [w11 cA a1 z.2]) (bs1 := [w10 cA cR a0 v, w11 cA a1 z.2, [(q3, .inl (cL, 1, .inr (.inl f3)))], [(q4, .inl (cF, 1, .inr (.inr (.inr (.inl f4)))))]]) (rest := []) (st1 := [.int z.2.2.2.2.1]) ⟨hx, hb, hml, hown, hts⟩ hz hw hA (mX11_thrown l D cA cR a1 z.2 (z.2.2.2.2.1) rfl) gL_law_X11_thrown rfl rfl rfl (by decide +kernel) rfl ⟨Nat.le_of_ble_eq_true rfl, Nat.le_of_ble_eq_true rfl⟩ rfl rfl hl.1 rfl (Nat.le_of_ble_eq_true rfl) dL_law_1086 ⟨(by show _ ≤ 601024; omega), (by show _ ≤ 7293034; omega)⟩ [1] [0, 2, 3] [0, 3, 1, 2] rfl rfl rfl rfl rfl rfl (fun H locs hw => ?_)
    refine lv_iload hx hb dL_law_1089 (lv_at hl 1 rfl) ?_
    refine lv_icmp_eq (tgt := 1096) hx hb dL_law_1091 (by decide) (fun _ => ?_) (fun cc => absurd hth cc)
    refine lv_iload hx hb dL_law_1096 (lv_at hl 1 rfl) ?_
    refine lv_if_ne (tgt := 1113) hx hb dL_law_1098 (by decide) (fun _ => ?_) (fun cc => absurd cc (by decide))
    refine lv_goto (tgt := 1547) hx hb dL_law_1113 (by decide) ?_
    refine W.widen (k := k0 + 1) (n := s0 + 6) (by omega) (by omega) ?_
    exact kk v z.2 f3 f4 _ _ _ hR hw (lv_sub hl [2, 3, 4, 5, 6, 7] rfl)
  · skip
    refine lv_aload_n hx hb dL_law_1048 rfl (lv_at hl 1 rfl) ?_
    refine lv_aload_n hx hb dL_law_1049 rfl (lv_at hl 0 rfl) ?_
    refine lv_iload hx hb dL_law_1050 (lv_at hl 5 rfl) ?_
    refine lv_iconst (v := 1) hx hb dL_law_1052 (by decide) ?_
    refine lv_iadd hx hb dL_law_1053 ?_
    refine va_sld hx hb hX hbl hbA hw.2.2 h1 dL_law_1054 ?_
    refine lv_topi (fun y ey => ?_)
    obtain rfl : p1 = y := (ey.trans e1).symm
    refine lv_aload_n hx hb dL_law_1055 rfl (lv_at hl 0 rfl) ?_
    refine lv_iload hx hb dL_law_1056 (lv_at hl 5 rfl) ?_
    refine lv_iconst (v := 2) hx hb dL_law_1058 (by decide) ?_
    refine lv_iadd hx hb dL_law_1059 ?_
    refine va_sld hx hb hX hbl hbA hw.2.2 h2 dL_law_1060 ?_
    refine lv_topi (fun y ey => ?_)
    obtain rfl : p2 = y := (ey.trans e2).symm
    refine lv_aload_n hx hb dL_law_1061 rfl (lv_at hl 3 rfl) ?_
    refine k_call (cs := [w10 cA cR a0 v, [(q3, .inl (cL, 1, .inr (.inl f3)))]]) (rs := [w11 cA a1 w, [(q4, .inl (cF, 1, .inr (.inr (.inr (.inl f4)))))]]) (cs1 := [w10 cA cR a0 v, [(q3, .inl (cL, 1, .inr (.inl f3)))]]) (bs1 := [w10 cA cR a0 v, w11 cA a1 w, [(q3, .inl (cL, 1, .inr (.inl f3)))], [(q4, .inl (cF, 1, .inr (.inr (.inr (.inl f4)))))]]) (rest := []) (st1 := [.int (2 : Int32)]) hw hA [0, 2] [1, 3] [2, 0, 3, 1] rfl rfl rfl rfl rfl (k_runL (nA := 4) (As := [.ref a0.1, .int p1, .int p2, .ref q3]) (cs := [w10 cA cR a0 v, [(q3, .inl (cL, 1, .inr (.inl f3)))]]) (rs := [w11 cA a1 w, [(q4, .inl (cF, 1, .inr (.inr (.inr (.inl f4)))))]]) (rest := []) ⟨hx, hb, hml, hown, hts⟩ hz hzl hzx hw hA (t1L_detector l hlt D cA cR cL cF  a0 v p1 p2 q3 f3 hu) gL_law_L_detector rfl rfl rfl (by decide +kernel) rfl ⟨Nat.le_of_ble_eq_true rfl, Nat.le_of_ble_eq_true rfl⟩ hl.1 rfl (Nat.le_of_ble_eq_true rfl) dL_law_1062 ⟨(by show _ ≤ 601024; omega), (by show _ ≤ 7293034; omega)⟩ [0, 2] [1, 3] rfl rfl rfl) rfl (fun H locs hw => ?_)
    refine lv_istore (lv' := [(6, .int (2 : Int32)), (0, .ref b), (1, .ref a0.1), (2, .ref a1.1), (3, .ref q3), (4, .ref q4), (5, .int x5)]) hx hb dL_law_1065 hl (by decide) rfl (fun ls hl => ?_)
    refine lv_aload_n hx hb dL_law_1067 rfl (lv_at hl 3 rfl) ?_
    refine lv_aload_n hx hb dL_law_1068 rfl (lv_at hl 1 rfl) ?_
    refine lv_iload hx hb dL_law_1069 (lv_at hl 6 rfl) ?_
    refine lv_iconst (v := 1) hx hb dL_law_1071 (by decide) ?_
    refine lv_iadd hx hb dL_law_1072 ?_
    refine va_sld hx hb hX hbl hbA hw.2.2 h1 dL_law_1073 ?_
    refine lv_topi (fun y ey => ?_)
    obtain rfl : p1 = y := (ey.trans e1).symm
    refine lv_aload_n hx hb dL_law_1074 rfl (lv_at hl 1 rfl) ?_
    refine lv_iload hx hb dL_law_1075 (lv_at hl 6 rfl) ?_
    refine lv_iconst (v := 2) hx hb dL_law_1077 (by decide) ?_
    refine lv_iadd hx hb dL_law_1078 ?_
    refine va_sld hx hb hX hbl hbA hw.2.2 h2 dL_law_1079 ?_
    refine lv_topi (fun y ey => ?_)
    obtain rfl : p2 = y := (ey.trans e2).symm
    refine k_callV (ci := 11) (C := RX11) (T := TX11) (N := 14) (nA := 2) (As := [.int p1, .int p2]) (cs := [w11 cA a1 w]) (rs := [w10 cA cR a0 v, [(q3, .inl (cL, 1, .inr (.inl f3)))], [(q4, .inl (cF, 1, .inr (.inr (.inr (.inl f4)))))]]) (cs1 := [w11 cA a1 z.2]) (bs1 := [w10 cA cR a0 v, w11 cA a1 z.2, [(q3, .inl (cL, 1, .inr (.inl f3)))], [(q4, .inl (cF, 1, .inr (.inr (.inr (.inl f4)))))]]) (rest := []) (st1 := [.int z.1]) ⟨hx, hb, hml, hown, hts⟩ hz hw hA (mX11_detector l D cA cR a1 w p1 p2 z hz1) gL_law_X11_detector rfl rfl rfl (by decide +kernel) rfl ⟨Nat.le_of_ble_eq_true rfl, Nat.le_of_ble_eq_true rfl⟩ rfl rfl hl.1 rfl (Nat.le_of_ble_eq_true rfl) dL_law_1080 ⟨(by show _ ≤ 601024; omega), (by show _ ≤ 7293034; omega)⟩ [1] [0, 2, 3] [0, 3, 1, 2] rfl rfl rfl rfl rfl rfl (fun H locs hw => ?_)
    refine lv_istore (lv' := [(7, .int z.1), (6, .int (2 : Int32)), (0, .ref b), (1, .ref a0.1), (2, .ref a1.1), (3, .ref q3), (4, .ref q4), (5, .int x5)]) hx hb dL_law_1083 hl (by decide) rfl (fun ls hl => ?_)
    refine lv_aload_n hx hb dL_law_1085 rfl (lv_at hl 4 rfl) ?_
    refine k_callV (ci := 11) (C := RX11) (T := TX11) (N := 14) (nA := 0) (As := []) (cs := [w11 cA a1 z.2]) (rs := [w10 cA cR a0 v, [(q3, .inl (cL, 1, .inr (.inl f3)))], [(q4, .inl (cF, 1, .inr (.inr (.inr (.inl f4)))))]]) (cs1 := [w11 cA a1 z.2]) (bs1 := [w10 cA cR a0 v, w11 cA a1 z.2, [(q3, .inl (cL, 1, .inr (.inl f3)))], [(q4, .inl (cF, 1, .inr (.inr (.inr (.inl f4)))))]]) (rest := []) (st1 := [.int z.2.2.2.2.1]) ⟨hx, hb, hml, hown, hts⟩ hz hw hA (mX11_thrown l D cA cR a1 z.2 (z.2.2.2.2.1) rfl) gL_law_X11_thrown rfl rfl rfl (by decide +kernel) rfl ⟨Nat.le_of_ble_eq_true rfl, Nat.le_of_ble_eq_true rfl⟩ rfl rfl hl.1 rfl (Nat.le_of_ble_eq_true rfl) dL_law_1086 ⟨(by show _ ≤ 601024; omega), (by show _ ≤ 7293034; omega)⟩ [1] [0, 2, 3] [0, 3, 1, 2] rfl rfl rfl rfl rfl rfl (fun H locs hw => ?_)
    refine lv_iload hx hb dL_law_1089 (lv_at hl 1 rfl) ?_
    refine lv_icmp_eq (tgt := 1096) hx hb dL_law_1091 (by decide) (fun _ => ?_) (fun cc => absurd hth cc)
    refine lv_iload hx hb dL_law_1096 (lv_at hl 1 rfl) ?_
    refine lv_if_ne (tgt := 1113) hx hb dL_law_1098 (by decide) (fun _ => ?_) (fun cc => absurd cc (by decide))
    refine lv_goto (tgt := 1547) hx hb dL_law_1113 (by decide) ?_
    refine W.widen (k := k0 + 1) (n := s0 + 6) (by omega) (by omega) ?_
    exact kk v z.2 f3 f4 _ _ _ hR hw (lv_sub hl [2, 3, 4, 5, 6, 7] rfl)
set_option maxHeartbeats 4000000 in
set_option maxRecDepth 100000 in
theorem lk_17 {p : Program} {l : Launch} {e : Env} {s : State} {m : MethodId} {below : List Frame} {meth : Method} {c : Code} {D : va_G} {cA cR cL cF : ClassId} {b L : Nat} {xs : Nat → Int32} {RR : Nat → V10 → V11 → Prop} {N : Nat} (hpu : PU_average RR N) (X : LX p l s m c b L xs D cA cR cL cF) {k0 s0 : Nat} (hk0 : k0 + 1 ≤ 601024) (hs0 : s0 + 6 ≤ 7293034) {cn : Nat} (hcn : cn < 512) {x5 : Int32} {p1 : Int32} (h1 : vp_in (x5 + 1) L) (e1 : xs (x5 + 1).toNatClampNeg = p1) {v : V10} {w : V11} {a0 : A10} {a1 : A11} {q3 q4 : Nat} {f3 : Nat → Int64} {f4 : Nat → UInt64} {H : Heap} {locs : List Loc} {ls : Array Slot} {Q : State → Prop} (hR : RR cn v w) (hw : ww (fun q : Nat => s.heap.size ≤ q) s.heap D [w10 cA cR a0 v, w11 cA a1 w, [(q3, .inl (cL, 1, .inr (.inl f3)))], [(q4, .inl (cF, 1, .inr (.inr (.inr (.inl f4)))))]] H locs) (hl : lv_has ls 9 [(0, .ref b), (1, .ref a0.1), (2, .ref a1.1), (3, .ref q3), (4, .ref q4), (5, .int x5)])
    (kk : ∀ (v : V10) (w : V11) (f3 : Nat → Int64) (f4 : Nat → UInt64) (H : Heap) (locs : List Loc) (ls : Array Slot), RR (cn + 1) v w → ww (fun q : Nat => s.heap.size ≤ q) s.heap D [w10 cA cR a0 v, w11 cA a1 w, [(q3, .inl (cL, 1, .inr (.inl f3)))], [(q4, .inl (cF, 1, .inr (.inr (.inr (.inl f4)))))]] H locs → lv_has ls 9 [(0, .ref b), (1, .ref a0.1), (2, .ref a1.1), (3, .ref q3), (4, .ref q4), (5, .int x5)] → W p l e room_1 s m #[Value.ref b] below meth c H locs (k0 + 1) (s0 + 6) Q (F0 m 1547 ls [])) : W p l e room_1 s m #[Value.ref b] below meth c H locs k0 s0 Q (F0 m 1116 ls []) := by
  obtain ⟨hx, hb, hml, hown, hts, hX, hbl, hz, hzl, hzx, hlt⟩ := X
  have hA : ∀ q : Nat, s.heap.size ≤ q → (fun q : Nat => s.heap.size ≤ q) q := fun _ h => h
  have hbA : ¬ (fun q : Nat => s.heap.size ≤ q) b := Nat.not_le.mpr hbl
  rcases hpu cn v w p1 hcn hR with ⟨u, z, hu, hz1, hth, hret, hR⟩ | ⟨z, hu, hz1, hth, hR⟩
  · skip
    refine lv_aload_n hx hb dL_law_1116 rfl (lv_at hl 1 rfl) ?_
    refine lv_aload_n hx hb dL_law_1117 rfl (lv_at hl 0 rfl) ?_
    refine lv_iload hx hb dL_law_1118 (lv_at hl 5 rfl) ?_
    refine lv_iconst (v := 1) hx hb dL_law_1120 (by decide) ?_
    refine lv_iadd hx hb dL_law_1121 ?_
    refine va_sld hx hb hX hbl hbA hw.2.2 h1 dL_law_1122 ?_
    refine lv_topi (fun y ey => ?_)
    obtain rfl : p1 = y := (ey.trans e1).symm
    refine lv_aload_n hx hb dL_law_1123 rfl (lv_at hl 3 rfl) ?_
    refine k_call (cs := [w10 cA cR a0 v, [(q3, .inl (cL, 1, .inr (.inl f3)))]]) (rs := [w11 cA a1 w, [(q4, .inl (cF, 1, .inr (.inr (.inr (.inl f4)))))]]) (cs1 := [w10 cA cR a0 v, [(q3, .inl (cL, 1, .inr (.inl (vp_updL f3 (0 : Int32).toNatClampNeg u.toInt64))))]]) (bs1 := [w10 cA cR a0 v, w11 cA a1 w, [(q3, .inl (cL, 1, .inr (.inl (vp_updL f3 (0 : Int32).toNatClampNeg u.toInt64))))], [(q4, .inl (cF, 1, .inr (.inr (.inr (.inl f4)))))]]) (rest := []) (st1 := [.int (0 : Int32)]) hw hA [0, 2] [1, 3] [2, 0, 3, 1] rfl rfl rfl rfl rfl (k_runL (nA := 3) (As := [.ref a0.1, .int p1, .ref q3]) (cs := [w10 cA cR a0 v, [(q3, .inl (cL, 1, .inr (.inl f3)))]]) (rs := [w11 cA a1 w, [(q4, .inl (cF, 1, .inr (.inr (.inr (.inl f4)))))]]) (rest := []) ⟨hx, hb, hml, hown, hts⟩ hz hzl hzx hw hA (mL_average l D cA cR cL cF N a0 v p1 q3 f3 u hu) gL_law_L_average rfl rfl rfl (by decide +kernel) rfl ⟨Nat.le_of_ble_eq_true rfl, Nat.le_of_ble_eq_true rfl⟩ hl.1 rfl (Nat.le_of_ble_eq_true rfl) dL_law_1124 ⟨(by show _ ≤ 601024; omega), (by show _ ≤ 7293034; omega)⟩ [0, 2] [1, 3] rfl rfl rfl) rfl (fun H locs hw => ?_)
    refine lv_istore (lv' := [(6, .int (0 : Int32)), (0, .ref b), (1, .ref a0.1), (2, .ref a1.1), (3, .ref q3), (4, .ref q4), (5, .int x5)]) hx hb dL_law_1127 hl (by decide) rfl (fun ls hl => ?_)
    refine lv_aload_n hx hb dL_law_1129 rfl (lv_at hl 3 rfl) ?_
    refine lv_aload_n hx hb dL_law_1130 rfl (lv_at hl 1 rfl) ?_
    refine lv_iload hx hb dL_law_1131 (lv_at hl 6 rfl) ?_
    refine lv_iconst (v := 1) hx hb dL_law_1133 (by decide) ?_
    refine lv_iadd hx hb dL_law_1134 ?_
    refine va_sld hx hb hX hbl hbA hw.2.2 h1 dL_law_1135 ?_
    refine lv_topi (fun y ey => ?_)
    obtain rfl : p1 = y := (ey.trans e1).symm
    refine k_callV (ci := 11) (C := RX11) (T := TX11) (N := 14) (nA := 1) (As := [.int p1]) (cs := [w11 cA a1 w]) (rs := [w10 cA cR a0 v, [(q3, .inl (cL, 1, .inr (.inl (vp_updL f3 (0 : Int32).toNatClampNeg u.toInt64))))], [(q4, .inl (cF, 1, .inr (.inr (.inr (.inl f4)))))]]) (cs1 := [w11 cA a1 z.2]) (bs1 := [w10 cA cR a0 v, w11 cA a1 z.2, [(q3, .inl (cL, 1, .inr (.inl (vp_updL f3 (0 : Int32).toNatClampNeg u.toInt64))))], [(q4, .inl (cF, 1, .inr (.inr (.inr (.inl f4)))))]]) (rest := []) (st1 := [.int z.1]) ⟨hx, hb, hml, hown, hts⟩ hz hw hA (mX11_average l D cA cR N a1 w p1 z hz1) gL_law_X11_average rfl rfl rfl (by decide +kernel) rfl ⟨Nat.le_of_ble_eq_true rfl, Nat.le_of_ble_eq_true rfl⟩ rfl rfl hl.1 rfl (Nat.le_of_ble_eq_true rfl) dL_law_1136 ⟨(by show _ ≤ 601024; omega), (by show _ ≤ 7293034; omega)⟩ [1] [0, 2, 3] [0, 3, 1, 2] rfl rfl rfl rfl rfl rfl (fun H locs hw => ?_)
    refine lv_istore (lv' := [(7, .int z.1), (6, .int (0 : Int32)), (0, .ref b), (1, .ref a0.1), (2, .ref a1.1), (3, .ref q3), (4, .ref q4), (5, .int x5)]) hx hb dL_law_1139 hl (by decide) rfl (fun ls hl => ?_)
    refine lv_aload_n hx hb dL_law_1141 rfl (lv_at hl 4 rfl) ?_
    refine k_callV (ci := 11) (C := RX11) (T := TX11) (N := 14) (nA := 0) (As := []) (cs := [w11 cA a1 z.2]) (rs := [w10 cA cR a0 v, [(q3, .inl (cL, 1, .inr (.inl (vp_updL f3 (0 : Int32).toNatClampNeg u.toInt64))))], [(q4, .inl (cF, 1, .inr (.inr (.inr (.inl f4)))))]]) (cs1 := [w11 cA a1 z.2]) (bs1 := [w10 cA cR a0 v, w11 cA a1 z.2, [(q3, .inl (cL, 1, .inr (.inl (vp_updL f3 (0 : Int32).toNatClampNeg u.toInt64))))], [(q4, .inl (cF, 1, .inr (.inr (.inr (.inl f4)))))]]) (rest := []) (st1 := [.int z.2.2.2.2.1]) ⟨hx, hb, hml, hown, hts⟩ hz hw hA (mX11_thrown l D cA cR a1 z.2 (z.2.2.2.2.1) rfl) gL_law_X11_thrown rfl rfl rfl (by decide +kernel) rfl ⟨Nat.le_of_ble_eq_true rfl, Nat.le_of_ble_eq_true rfl⟩ rfl rfl hl.1 rfl (Nat.le_of_ble_eq_true rfl) dL_law_1142 ⟨(by show _ ≤ 601024; omega), (by show _ ≤ 7293034; omega)⟩ [1] [0, 2, 3] [0, 3, 1, 2] rfl rfl rfl rfl rfl rfl (fun H locs hw => ?_)
    refine lv_iload hx hb dL_law_1145 (lv_at hl 1 rfl) ?_
    refine lv_icmp_eq (tgt := 1152) hx hb dL_law_1147 (by decide) (fun _ => ?_) (fun cc => absurd hth cc)
    refine lv_iload hx hb dL_law_1152 (lv_at hl 1 rfl) ?_
    refine lv_if_ne (tgt := 1169) hx hb dL_law_1154 (by decide) (fun cc => absurd rfl cc) (fun _ => ?_)
    refine lv_aload_n hx hb dL_law_1157 rfl (lv_at hl 5 rfl) ?_
    refine lv_iconst (v := 0) hx hb dL_law_1158 (by decide) ?_
    refine k_lald hx hb hzl hw 2 rfl (by unfold vp_in; decide) dL_law_1159 ?_
    refine lv_iload hx hb dL_law_1160 (lv_at hl 0 rfl) ?_
    refine lv_i2l hx hb dL_law_1162 rfl ?_
    refine W.lcmp hx hb dL_law_1163 ?_
    refine lv_if_eq (tgt := 1169) hx hb dL_law_1164 (by decide) (fun _ => ?_) (fun cc => absurd (lcmp_same (by rw [← hret]; exact pk_uLs)) cc)
    refine lv_goto (tgt := 1547) hx hb dL_law_1169 (by decide) ?_
    refine W.widen (k := k0 + 1) (n := s0 + 6) (by omega) (by omega) ?_
    exact kk v z.2 (vp_updL f3 (0 : Int32).toNatClampNeg u.toInt64) f4 _ _ _ hR hw (lv_sub hl [2, 3, 4, 5, 6, 7] rfl)
  · skip
    refine lv_aload_n hx hb dL_law_1116 rfl (lv_at hl 1 rfl) ?_
    refine lv_aload_n hx hb dL_law_1117 rfl (lv_at hl 0 rfl) ?_
    refine lv_iload hx hb dL_law_1118 (lv_at hl 5 rfl) ?_
    refine lv_iconst (v := 1) hx hb dL_law_1120 (by decide) ?_
    refine lv_iadd hx hb dL_law_1121 ?_
    refine va_sld hx hb hX hbl hbA hw.2.2 h1 dL_law_1122 ?_
    refine lv_topi (fun y ey => ?_)
    obtain rfl : p1 = y := (ey.trans e1).symm
    refine lv_aload_n hx hb dL_law_1123 rfl (lv_at hl 3 rfl) ?_
    refine k_call (cs := [w10 cA cR a0 v, [(q3, .inl (cL, 1, .inr (.inl f3)))]]) (rs := [w11 cA a1 w, [(q4, .inl (cF, 1, .inr (.inr (.inr (.inl f4)))))]]) (cs1 := [w10 cA cR a0 v, [(q3, .inl (cL, 1, .inr (.inl f3)))]]) (bs1 := [w10 cA cR a0 v, w11 cA a1 w, [(q3, .inl (cL, 1, .inr (.inl f3)))], [(q4, .inl (cF, 1, .inr (.inr (.inr (.inl f4)))))]]) (rest := []) (st1 := [.int (1 : Int32)]) hw hA [0, 2] [1, 3] [2, 0, 3, 1] rfl rfl rfl rfl rfl (k_runL (nA := 3) (As := [.ref a0.1, .int p1, .ref q3]) (cs := [w10 cA cR a0 v, [(q3, .inl (cL, 1, .inr (.inl f3)))]]) (rs := [w11 cA a1 w, [(q4, .inl (cF, 1, .inr (.inr (.inr (.inl f4)))))]]) (rest := []) ⟨hx, hb, hml, hown, hts⟩ hz hzl hzx hw hA (t0L_average l hlt D cA cR cL cF N a0 v p1 q3 f3 hu) gL_law_L_average rfl rfl rfl (by decide +kernel) rfl ⟨Nat.le_of_ble_eq_true rfl, Nat.le_of_ble_eq_true rfl⟩ hl.1 rfl (Nat.le_of_ble_eq_true rfl) dL_law_1124 ⟨(by show _ ≤ 601024; omega), (by show _ ≤ 7293034; omega)⟩ [0, 2] [1, 3] rfl rfl rfl) rfl (fun H locs hw => ?_)
    refine lv_istore (lv' := [(6, .int (1 : Int32)), (0, .ref b), (1, .ref a0.1), (2, .ref a1.1), (3, .ref q3), (4, .ref q4), (5, .int x5)]) hx hb dL_law_1127 hl (by decide) rfl (fun ls hl => ?_)
    refine lv_aload_n hx hb dL_law_1129 rfl (lv_at hl 3 rfl) ?_
    refine lv_aload_n hx hb dL_law_1130 rfl (lv_at hl 1 rfl) ?_
    refine lv_iload hx hb dL_law_1131 (lv_at hl 6 rfl) ?_
    refine lv_iconst (v := 1) hx hb dL_law_1133 (by decide) ?_
    refine lv_iadd hx hb dL_law_1134 ?_
    refine va_sld hx hb hX hbl hbA hw.2.2 h1 dL_law_1135 ?_
    refine lv_topi (fun y ey => ?_)
    obtain rfl : p1 = y := (ey.trans e1).symm
    refine k_callV (ci := 11) (C := RX11) (T := TX11) (N := 14) (nA := 1) (As := [.int p1]) (cs := [w11 cA a1 w]) (rs := [w10 cA cR a0 v, [(q3, .inl (cL, 1, .inr (.inl f3)))], [(q4, .inl (cF, 1, .inr (.inr (.inr (.inl f4)))))]]) (cs1 := [w11 cA a1 z.2]) (bs1 := [w10 cA cR a0 v, w11 cA a1 z.2, [(q3, .inl (cL, 1, .inr (.inl f3)))], [(q4, .inl (cF, 1, .inr (.inr (.inr (.inl f4)))))]]) (rest := []) (st1 := [.int z.1]) ⟨hx, hb, hml, hown, hts⟩ hz hw hA (mX11_average l D cA cR N a1 w p1 z hz1) gL_law_X11_average rfl rfl rfl (by decide +kernel) rfl ⟨Nat.le_of_ble_eq_true rfl, Nat.le_of_ble_eq_true rfl⟩ rfl rfl hl.1 rfl (Nat.le_of_ble_eq_true rfl) dL_law_1136 ⟨(by show _ ≤ 601024; omega), (by show _ ≤ 7293034; omega)⟩ [1] [0, 2, 3] [0, 3, 1, 2] rfl rfl rfl rfl rfl rfl (fun H locs hw => ?_)
    refine lv_istore (lv' := [(7, .int z.1), (6, .int (1 : Int32)), (0, .ref b), (1, .ref a0.1), (2, .ref a1.1), (3, .ref q3), (4, .ref q4), (5, .int x5)]) hx hb dL_law_1139 hl (by decide) rfl (fun ls hl => ?_)
    refine lv_aload_n hx hb dL_law_1141 rfl (lv_at hl 4 rfl) ?_
    refine k_callV (ci := 11) (C := RX11) (T := TX11) (N := 14) (nA := 0) (As := []) (cs := [w11 cA a1 z.2]) (rs := [w10 cA cR a0 v, [(q3, .inl (cL, 1, .inr (.inl f3)))], [(q4, .inl (cF, 1, .inr (.inr (.inr (.inl f4)))))]]) (cs1 := [w11 cA a1 z.2]) (bs1 := [w10 cA cR a0 v, w11 cA a1 z.2, [(q3, .inl (cL, 1, .inr (.inl f3)))], [(q4, .inl (cF, 1, .inr (.inr (.inr (.inl f4)))))]]) (rest := []) (st1 := [.int z.2.2.2.2.1]) ⟨hx, hb, hml, hown, hts⟩ hz hw hA (mX11_thrown l D cA cR a1 z.2 (z.2.2.2.2.1) rfl) gL_law_X11_thrown rfl rfl rfl (by decide +kernel) rfl ⟨Nat.le_of_ble_eq_true rfl, Nat.le_of_ble_eq_true rfl⟩ rfl rfl hl.1 rfl (Nat.le_of_ble_eq_true rfl) dL_law_1142 ⟨(by show _ ≤ 601024; omega), (by show _ ≤ 7293034; omega)⟩ [1] [0, 2, 3] [0, 3, 1, 2] rfl rfl rfl rfl rfl rfl (fun H locs hw => ?_)
    refine lv_iload hx hb dL_law_1145 (lv_at hl 1 rfl) ?_
    refine lv_icmp_eq (tgt := 1152) hx hb dL_law_1147 (by decide) (fun _ => ?_) (fun cc => absurd hth cc)
    refine lv_iload hx hb dL_law_1152 (lv_at hl 1 rfl) ?_
    refine lv_if_ne (tgt := 1169) hx hb dL_law_1154 (by decide) (fun _ => ?_) (fun cc => absurd cc (by decide))
    refine lv_goto (tgt := 1547) hx hb dL_law_1169 (by decide) ?_
    refine W.widen (k := k0 + 1) (n := s0 + 6) (by omega) (by omega) ?_
    exact kk v z.2 f3 f4 _ _ _ hR hw (lv_sub hl [2, 3, 4, 5, 6, 7] rfl)
