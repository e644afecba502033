set_option maxHeartbeats 4000000 in
set_option maxRecDepth 100000 in
theorem lk_18 {p : Program} {l : Launch} {e : Env} {s : State} {m : MethodId} {below : List Frame} {meth : Method} {c : Code} {D : va_G} {cA cR cL cF : ClassId} {b L : Nat} {xs : Nat → Int32} {RR : Nat → V10 → V11 → Prop} {N : Nat} (hpu : PU_occupancy RR N) (X : LX p l s m c b L xs D cA cR cL cF) {k0 s0 : Nat} (hk0 : k0 + 1 ≤ 601024) (hs0 : s0 + 6 ≤ 7293034) {cn : Nat} (hcn : cn < 512) {x5 : Int32} {p1 : Int32} (h1 : vp_in (x5 + 1) L) (e1 : xs (x5 + 1).toNatClampNeg = p1) {v : V10} {w : V11} {a0 : A10} {a1 : A11} {q3 q4 : Nat} {f3 : Nat → Int64} {f4 : Nat → UInt64} {H : Heap} {locs : List Loc} {ls : Array Slot} {Q : State → Prop} (hR : RR cn v w) (hw : ww (fun q : Nat => s.heap.size ≤ q) s.heap D [w10 cA cR a0 v, w11 cA a1 w, [(q3, .inl (cL, 1, .inr (.inl f3)))], [(q4, .inl (cF, 1, .inr (.inr (.inr (.inl f4)))))]] H locs) (hl : lv_has ls 9 [(0, .ref b), (1, .ref a0.1), (2, .ref a1.1), (3, .ref q3), (4, .ref q4), (5, .int x5)])
    (kk : ∀ (v : V10) (w : V11) (f3 : Nat → Int64) (f4 : Nat → UInt64) (H : Heap) (locs : List Loc) (ls : Array Slot), RR (cn + 1) v w → ww (fun q : Nat => s.heap.size ≤ q) s.heap D [w10 cA cR a0 v, w11 cA a1 w, [(q3, .inl (cL, 1, .inr (.inl f3)))], [(q4, .inl (cF, 1, .inr (.inr (.inr (.inl f4)))))]] H locs → lv_has ls 9 [(0, .ref b), (1, .ref a0.1), (2, .ref a1.1), (3, .ref q3), (4, .ref q4), (5, .int x5)] → W p l e room_1 s m #[Value.ref b] below meth c H locs (k0 + 1) (s0 + 6) Q (F0 m 1547 ls [])) : W p l e room_1 s m #[Value.ref b] below meth c H locs k0 s0 Q (F0 m 1172 ls []) := by
  obtain ⟨hx, hb, hml, hown, hts, hX, hbl, hz, hzl, hzx, hlt⟩ := X
  have hA : ∀ q : Nat, s.heap.size ≤ q → (fun q : Nat => s.heap.size ≤ q) q := fun _ h => h
  have hbA : ¬ (fun q : Nat => s.heap.size ≤ q) b := Nat.not_le.mpr hbl
  rcases hpu cn v w p1 hcn hR with ⟨u, z, hu, hz1, hth, hret, hR⟩ | ⟨z, hu, hz1, hth, hR⟩
  · skip
    refine lv_aload_n hx hb dL_law_1172 rfl (lv_at hl 1 rfl) ?_
    refine lv_aload_n hx hb dL_law_1173 rfl (lv_at hl 0 rfl) ?_
    refine lv_iload hx hb dL_law_1174 (lv_at hl 5 rfl) ?_
    refine lv_iconst (v := 1) hx hb dL_law_1176 (by decide) ?_
    refine lv_iadd hx hb dL_law_1177 ?_
    refine va_sld hx hb hX hbl hbA hw.2.2 h1 dL_law_1178 ?_
    refine lv_topi (fun y ey => ?_)
    obtain rfl : p1 = y := (ey.trans e1).symm
    refine lv_aload hx hb dL_law_1179 (lv_at hl 4 rfl) ?_
    refine k_call (cs := [w10 cA cR a0 v, [(q4, .inl (cF, 1, .inr (.inr (.inr (.inl f4)))))]]) (rs := [w11 cA a1 w, [(q3, .inl (cL, 1, .inr (.inl f3)))]]) (cs1 := [w10 cA cR a0 v, [(q4, .inl (cF, 1, .inr (.inr (.inr (.inl (vf_upd f4 (0 : Int32).toNatClampNeg u))))))]]) (bs1 := [w10 cA cR a0 v, w11 cA a1 w, [(q3, .inl (cL, 1, .inr (.inl f3)))], [(q4, .inl (cF, 1, .inr (.inr (.inr (.inl (vf_upd f4 (0 : Int32).toNatClampNeg u))))))]]) (rest := []) (st1 := [.int (0 : Int32)]) hw hA [0, 3] [1, 2] [2, 0, 1, 3] rfl rfl rfl rfl rfl (k_runL (nA := 3) (As := [.ref a0.1, .int p1, .ref q4]) (cs := [w10 cA cR a0 v, [(q4, .inl (cF, 1, .inr (.inr (.inr (.inl f4)))))]]) (rs := [w11 cA a1 w, [(q3, .inl (cL, 1, .inr (.inl f3)))]]) (rest := []) ⟨hx, hb, hml, hown, hts⟩ hz hzl hzx hw hA (mL_occupancy l D cA cR cL cF  a0 v p1 q4 f4 u hu) gL_law_L_occupancy rfl rfl rfl (by decide +kernel) rfl ⟨Nat.le_of_ble_eq_true rfl, Nat.le_of_ble_eq_true rfl⟩ hl.1 rfl (Nat.le_of_ble_eq_true rfl) dL_law_1181 ⟨(by show _ ≤ 601024; omega), (by show _ ≤ 7293034; omega)⟩ [0, 3] [1, 2] rfl rfl rfl) rfl (fun H locs hw => ?_)
    refine lv_istore (lv' := [(6, .int (0 : Int32)), (0, .ref b), (1, .ref a0.1), (2, .ref a1.1), (3, .ref q3), (4, .ref q4), (5, .int x5)]) hx hb dL_law_1184 hl (by decide) rfl (fun ls hl => ?_)
    refine lv_aload_n hx hb dL_law_1186 rfl (lv_at hl 3 rfl) ?_
    refine lv_aload_n hx hb dL_law_1187 rfl (lv_at hl 1 rfl) ?_
    refine lv_iload hx hb dL_law_1188 (lv_at hl 6 rfl) ?_
    refine lv_iconst (v := 1) hx hb dL_law_1190 (by decide) ?_
    refine lv_iadd hx hb dL_law_1191 ?_
    refine va_sld hx hb hX hbl hbA hw.2.2 h1 dL_law_1192 ?_
    refine lv_topi (fun y ey => ?_)
    obtain rfl : p1 = y := (ey.trans e1).symm
    refine k_callV (ci := 11) (C := RX11) (T := TX11) (N := 14) (nA := 1) (As := [.int p1]) (cs := [w11 cA a1 w]) (rs := [w10 cA cR a0 v, [(q3, .inl (cL, 1, .inr (.inl f3)))], [(q4, .inl (cF, 1, .inr (.inr (.inr (.inl (vf_upd f4 (0 : Int32).toNatClampNeg u))))))]]) (cs1 := [w11 cA a1 z.2]) (bs1 := [w10 cA cR a0 v, w11 cA a1 z.2, [(q3, .inl (cL, 1, .inr (.inl f3)))], [(q4, .inl (cF, 1, .inr (.inr (.inr (.inl (vf_upd f4 (0 : Int32).toNatClampNeg u))))))]]) (rest := []) (st1 := [.double z.1]) ⟨hx, hb, hml, hown, hts⟩ hz hw hA (mX11_occupancy l D cA cR a1 w p1 z hz1) gL_law_X11_occupancy rfl rfl rfl (by decide +kernel) rfl ⟨Nat.le_of_ble_eq_true rfl, Nat.le_of_ble_eq_true rfl⟩ rfl rfl hl.1 rfl (Nat.le_of_ble_eq_true rfl) dL_law_1193 ⟨(by show _ ≤ 601024; omega), (by show _ ≤ 7293034; omega)⟩ [1] [0, 2, 3] [0, 3, 1, 2] rfl rfl rfl rfl rfl rfl (fun H locs hw => ?_)
    refine lv_dstore (lv' := [(7, .double z.1), (6, .int (0 : Int32)), (0, .ref b), (1, .ref a0.1), (2, .ref a1.1), (3, .ref q3), (4, .ref q4), (5, .int x5)]) hx hb dL_law_1196 hl (by decide) rfl (fun ls hl => ?_)
    refine lv_aload_n hx hb dL_law_1198 rfl (lv_at hl 4 rfl) ?_
    refine k_callV (ci := 11) (C := RX11) (T := TX11) (N := 14) (nA := 0) (As := []) (cs := [w11 cA a1 z.2]) (rs := [w10 cA cR a0 v, [(q3, .inl (cL, 1, .inr (.inl f3)))], [(q4, .inl (cF, 1, .inr (.inr (.inr (.inl (vf_upd f4 (0 : Int32).toNatClampNeg u))))))]]) (cs1 := [w11 cA a1 z.2]) (bs1 := [w10 cA cR a0 v, w11 cA a1 z.2, [(q3, .inl (cL, 1, .inr (.inl f3)))], [(q4, .inl (cF, 1, .inr (.inr (.inr (.inl (vf_upd f4 (0 : Int32).toNatClampNeg u))))))]]) (rest := []) (st1 := [.int z.2.2.2.2.1]) ⟨hx, hb, hml, hown, hts⟩ hz hw hA (mX11_thrown l D cA cR a1 z.2 (z.2.2.2.2.1) rfl) gL_law_X11_thrown rfl rfl rfl (by decide +kernel) rfl ⟨Nat.le_of_ble_eq_true rfl, Nat.le_of_ble_eq_true rfl⟩ rfl rfl hl.1 rfl (Nat.le_of_ble_eq_true rfl) dL_law_1199 ⟨(by show _ ≤ 601024; omega), (by show _ ≤ 7293034; omega)⟩ [1] [0, 2, 3] [0, 3, 1, 2] rfl rfl rfl rfl rfl rfl (fun H locs hw => ?_)
    refine lv_iload hx hb dL_law_1202 (lv_at hl 1 rfl) ?_
    refine lv_icmp_eq (tgt := 1209) hx hb dL_law_1204 (by decide) (fun _ => ?_) (fun cc => absurd hth cc)
    refine lv_iload hx hb dL_law_1209 (lv_at hl 1 rfl) ?_
    refine lv_if_ne (tgt := 1246) hx hb dL_law_1211 (by decide) (fun cc => absurd rfl cc) (fun _ => ?_)
    refine lv_aload hx hb dL_law_1214 (lv_at hl 6 rfl) ?_
    refine lv_iconst (v := 0) hx hb dL_law_1216 (by decide) ?_
    refine k_dald hx hb hzl hw 3 rfl (by unfold vp_in; decide) dL_law_1217 ?_
    have hv9 : (vf_upd f4 (0 : Int32).toNatClampNeg u) (0 : Int32).toNatClampNeg = z.1 := by rw [← hret]; simp [vf_upd]
    rw [hv9]
    refine lv_dload hx hb dL_law_1218 (lv_at hl 0 rfl) ?_
    refine lv_dcmp hx hb dL_law_1220 ?_
    have kk9 : W p l e room_1 s m #[Value.ref b] below meth c H locs k0 s0 Q (F0 m 1246 ls []) := by
      refine lv_goto (tgt := 1547) hx hb dL_law_1246 (by decide) ?_
      refine W.widen (k := k0 + 1) (n := s0 + 6) (by omega) (by omega) ?_
      exact kk v z.2 f3 (vf_upd f4 (0 : Int32).toNatClampNeg u) _ _ _ hR hw (lv_sub hl [2, 3, 4, 5, 6, 7] rfl)
    refine lv_if_eq (tgt := 1246) hx hb dL_law_1221 (by decide) (fun _ => kk9) (fun c9 => ?_)
    refine lv_aload hx hb dL_law_1224 (lv_at hl 6 rfl) ?_
    refine lv_iconst (v := 0) hx hb dL_law_1226 (by decide) ?_
    refine k_dald hx hb hzl hw 3 rfl (by unfold vp_in; decide) dL_law_1227 ?_
    rw [hv9]
    refine lv_aload hx hb dL_law_1228 (lv_at hl 6 rfl) ?_
    refine lv_iconst (v := 0) hx hb dL_law_1230 (by decide) ?_
    refine k_dald hx hb hzl hw 3 rfl (by unfold vp_in; decide) dL_law_1231 ?_
    rw [hv9]
    refine lv_dcmp hx hb dL_law_1232 ?_
    refine lv_if_eq (tgt := 1244) hx hb dL_law_1233 (by decide) (fun c8 => absurd c8 c9) (fun _ => ?_)
    refine lv_dload hx hb dL_law_1236 (lv_at hl 0 rfl) ?_
    refine lv_dload hx hb dL_law_1238 (lv_at hl 0 rfl) ?_
    refine lv_dcmp hx hb dL_law_1240 ?_
    exact lv_if_ne (tgt := 1246) hx hb dL_law_1241 (by decide) (fun _ => kk9) (fun c8 => absurd c8 c9)
  · skip
    refine lv_aload_n hx hb dL_law_1172 rfl (lv_at hl 1 rfl) ?_
    refine lv_aload_n hx hb dL_law_1173 rfl (lv_at hl 0 rfl) ?_
    refine lv_iload hx hb dL_law_1174 (lv_at hl 5 rfl) ?_
    refine lv_iconst (v := 1) hx hb dL_law_1176 (by decide) ?_
    refine lv_iadd hx hb dL_law_1177 ?_
    refine va_sld hx hb hX hbl hbA hw.2.2 h1 dL_law_1178 ?_
    refine lv_topi (fun y ey => ?_)
    obtain rfl : p1 = y := (ey.trans e1).symm
    refine lv_aload hx hb dL_law_1179 (lv_at hl 4 rfl) ?_
    refine k_call (cs := [w10 cA cR a0 v, [(q4, .inl (cF, 1, .inr (.inr (.inr (.inl f4)))))]]) (rs := [w11 cA a1 w, [(q3, .inl (cL, 1, .inr (.inl f3)))]]) (cs1 := [w10 cA cR a0 v, [(q4, .inl (cF, 1, .inr (.inr (.inr (.inl f4)))))]]) (bs1 := [w10 cA cR a0 v, w11 cA a1 w, [(q3, .inl (cL, 1, .inr (.inl f3)))], [(q4, .inl (cF, 1, .inr (.inr (.inr (.inl f4)))))]]) (rest := []) (st1 := [.int (1 : Int32)]) hw hA [0, 3] [1, 2] [2, 0, 1, 3] rfl rfl rfl rfl rfl (k_runL (nA := 3) (As := [.ref a0.1, .int p1, .ref q4]) (cs := [w10 cA cR a0 v, [(q4, .inl (cF, 1, .inr (.inr (.inr (.inl f4)))))]]) (rs := [w11 cA a1 w, [(q3, .inl (cL, 1, .inr (.inl f3)))]]) (rest := []) ⟨hx, hb, hml, hown, hts⟩ hz hzl hzx hw hA (t0L_occupancy l hlt D cA cR cL cF  a0 v p1 q4 f4 hu) gL_law_L_occupancy rfl rfl rfl (by decide +kernel) rfl ⟨Nat.le_of_ble_eq_true rfl, Nat.le_of_ble_eq_true rfl⟩ hl.1 rfl (Nat.le_of_ble_eq_true rfl) dL_law_1181 ⟨(by show _ ≤ 601024; omega), (by show _ ≤ 7293034; omega)⟩ [0, 3] [1, 2] rfl rfl rfl) rfl (fun H locs hw => ?_)
    refine lv_istore (lv' := [(6, .int (1 : Int32)), (0, .ref b), (1, .ref a0.1), (2, .ref a1.1), (3, .ref q3), (4, .ref q4), (5, .int x5)]) hx hb dL_law_1184 hl (by decide) rfl (fun ls hl => ?_)
    refine lv_aload_n hx hb dL_law_1186 rfl (lv_at hl 3 rfl) ?_
    refine lv_aload_n hx hb dL_law_1187 rfl (lv_at hl 1 rfl) ?_
    refine lv_iload hx hb dL_law_1188 (lv_at hl 6 rfl) ?_
    refine lv_iconst (v := 1) hx hb dL_law_1190 (by decide) ?_
    refine lv_iadd hx hb dL_law_1191 ?_
    refine va_sld hx hb hX hbl hbA hw.2.2 h1 dL_law_1192 ?_
    refine lv_topi (fun y ey => ?_)
    obtain rfl : p1 = y := (ey.trans e1).symm
    refine k_callV (ci := 11) (C := RX11) (T := TX11) (N := 14) (nA := 1) (As := [.int p1]) (cs := [w11 cA a1 w]) (rs := [w10 cA cR a0 v, [(q3, .inl (cL, 1, .inr (.inl f3)))], [(q4, .inl (cF, 1, .inr (.inr (.inr (.inl f4)))))]]) (cs1 := [w11 cA a1 z.2]) (bs1 := [w10 cA cR a0 v, w11 cA a1 z.2, [(q3, .inl (cL, 1, .inr (.inl f3)))], [(q4, .inl (cF, 1, .inr (.inr (.inr (.inl f4)))))]]) (rest := []) (st1 := [.double z.1]) ⟨hx, hb, hml, hown, hts⟩ hz hw hA (mX11_occupancy l D cA cR a1 w p1 z hz1) gL_law_X11_occupancy rfl rfl rfl (by decide +kernel) rfl ⟨Nat.le_of_ble_eq_true rfl, Nat.le_of_ble_eq_true rfl⟩ rfl rfl hl.1 rfl (Nat.le_of_ble_eq_true rfl) dL_law_1193 ⟨(by show _ ≤ 601024; omega), (by show _ ≤ 7293034; omega)⟩ [1] [0, 2, 3] [0, 3, 1, 2] rfl rfl rfl rfl rfl rfl (fun H locs hw => ?_)
    refine lv_dstore (lv' := [(7, .double z.1), (6, .int (1 : Int32)), (0, .ref b), (1, .ref a0.1), (2, .ref a1.1), (3, .ref q3), (4, .ref q4), (5, .int x5)]) hx hb dL_law_1196 hl (by decide) rfl (fun ls hl => ?_)
    refine lv_aload_n hx hb dL_law_1198 rfl (lv_at hl 4 rfl) ?_
    refine k_callV (ci := 11) (C := RX11) (T := TX11) (N := 14) (nA := 0) (As := []) (cs := [w11 cA a1 z.2]) (rs := [w10 cA cR a0 v, [(q3, .inl (cL, 1, .inr (.inl f3)))], [(q4, .inl (cF, 1, .inr (.inr (.inr (.inl f4)))))]]) (cs1 := [w11 cA a1 z.2]) (bs1 := [w10 cA cR a0 v, w11 cA a1 z.2, [(q3, .inl (cL, 1, .inr (.inl f3)))], [(q4, .inl (cF, 1, .inr (.inr (.inr (.inl f4)))))]]) (rest := []) (st1 := [.int z.2.2.2.2.1]) ⟨hx, hb, hml, hown, hts⟩ hz hw hA (mX11_thrown l D cA cR a1 z.2 (z.2.2.2.2.1) rfl) gL_law_X11_thrown rfl rfl rfl (by decide +kernel) rfl ⟨Nat.le_of_ble_eq_true rfl, Nat.le_of_ble_eq_true rfl⟩ rfl rfl hl.1 rfl (Nat.le_of_ble_eq_true rfl) dL_law_1199 ⟨(by show _ ≤ 601024; omega), (by show _ ≤ 7293034; omega)⟩ [1] [0, 2, 3] [0, 3, 1, 2] rfl rfl rfl rfl rfl rfl (fun H locs hw => ?_)
    refine lv_iload hx hb dL_law_1202 (lv_at hl 1 rfl) ?_
    refine lv_icmp_eq (tgt := 1209) hx hb dL_law_1204 (by decide) (fun _ => ?_) (fun cc => absurd hth cc)
    refine lv_iload hx hb dL_law_1209 (lv_at hl 1 rfl) ?_
    refine lv_if_ne (tgt := 1246) hx hb dL_law_1211 (by decide) (fun _ => ?_) (fun cc => absurd cc (by decide))
    refine lv_goto (tgt := 1547) hx hb dL_law_1246 (by decide) ?_
    refine W.widen (k := k0 + 1) (n := s0 + 6) (by omega) (by omega) ?_
    exact kk v z.2 f3 f4 _ _ _ hR hw (lv_sub hl [2, 3, 4, 5, 6, 7] rfl)
set_option maxHeartbeats 4000000 in
set_option maxRecDepth 100000 in
theorem lk_19 {p : Program} {l : Launch} {e : Env} {s : State} {m : MethodId} {below : List Frame} {meth : Method} {c : Code} {D : va_G} {cA cR cL cF : ClassId} {b L : Nat} {xs : Nat → Int32} {RR : Nat → V10 → V11 → Prop} {N : Nat} (hpu : PU_reset RR N) (X : LX p l s m c b L xs D cA cR cL cF) {k0 s0 : Nat} (hk0 : k0 + 1 ≤ 601024) (hs0 : s0 + 6 ≤ 7293034) {cn : Nat} (hcn : cn < 512) {x5 : Int32} {v : V10} {w : V11} {a0 : A10} {a1 : A11} {q3 q4 : Nat} {f3 : Nat → Int64} {f4 : Nat → UInt64} {H : Heap} {locs : List Loc} {ls : Array Slot} {Q : State → Prop} (hR : RR cn v w) (hw : ww (fun q : Nat => s.heap.size ≤ q) s.heap D [w10 cA cR a0 v, w11 cA a1 w, [(q3, .inl (cL, 1, .inr (.inl f3)))], [(q4, .inl (cF, 1, .inr (.inr (.inr (.inl f4)))))]] H locs) (hl : lv_has ls 9 [(0, .ref b), (1, .ref a0.1), (2, .ref a1.1), (3, .ref q3), (4, .ref q4), (5, .int x5)])
    (kk : ∀ (v : V10) (w : V11) (f3 : Nat → Int64) (f4 : Nat → UInt64) (H : Heap) (locs : List Loc) (ls : Array Slot), RR (cn + 1) v w → ww (fun q : Nat => s.heap.size ≤ q) s.heap D [w10 cA cR a0 v, w11 cA a1 w, [(q3, .inl (cL, 1, .inr (.inl f3)))], [(q4, .inl (cF, 1, .inr (.inr (.inr (.inl f4)))))]] H locs → lv_has ls 9 [(0, .ref b), (1, .ref a0.1), (2, .ref a1.1), (3, .ref q3), (4, .ref q4), (5, .int x5)] → W p l e room_1 s m #[Value.ref b] below meth c H locs (k0 + 1) (s0 + 6) Q (F0 m 1547 ls [])) : W p l e room_1 s m #[Value.ref b] below meth c H locs k0 s0 Q (F0 m 1249 ls []) := by
  obtain ⟨hx, hb, hml, hown, hts, hX, hbl, hz, hzl, hzx, hlt⟩ := X
  have hA : ∀ q : Nat, s.heap.size ≤ q → (fun q : Nat => s.heap.size ≤ q) q := fun _ h => h
  have hbA : ¬ (fun q : Nat => s.heap.size ≤ q) b := Nat.not_le.mpr hbl
  obtain ⟨u, z, hu, hz1, hret, hR⟩ := hpu cn v w hcn hR
  refine lv_aload_n hx hb dL_law_1249 rfl (lv_at hl 1 rfl) ?_
  refine k_callV (ci := 10) (C := RX10) (T := TX10) (N := 7) (nA := 0) (As := []) (cs := [w10 cA cR a0 v]) (rs := [w11 cA a1 w, [(q3, .inl (cL, 1, .inr (.inl f3)))], [(q4, .inl (cF, 1, .inr (.inr (.inr (.inl f4)))))]]) (cs1 := [w10 cA cR a0 u.2]) (bs1 := [w10 cA cR a0 u.2, w11 cA a1 w, [(q3, .inl (cL, 1, .inr (.inl f3)))], [(q4, .inl (cF, 1, .inr (.inr (.inr (.inl f4)))))]]) (rest := []) (st1 := [.int u.1]) ⟨hx, hb, hml, hown, hts⟩ hz hw hA (mX10_reset l D cA cR N a0 v u hu) gL_law_X10_reset rfl rfl rfl (by decide +kernel) rfl ⟨Nat.le_of_ble_eq_true rfl, Nat.le_of_ble_eq_true rfl⟩ rfl rfl hl.1 rfl (Nat.le_of_ble_eq_true rfl) dL_law_1250 ⟨(by show _ ≤ 601024; omega), (by show _ ≤ 7293034; omega)⟩ [0] [1, 2, 3] [3, 0, 1, 2] rfl rfl rfl rfl rfl rfl (fun H locs hw => ?_)
  refine lv_aload_n hx hb dL_law_1253 rfl (lv_at hl 2 rfl) ?_
  refine k_callV (ci := 11) (C := RX11) (T := TX11) (N := 14) (nA := 0) (As := []) (cs := [w11 cA a1 w]) (rs := [w10 cA cR a0 u.2, [(q3, .inl (cL, 1, .inr (.inl f3)))], [(q4, .inl (cF, 1, .inr (.inr (.inr (.inl f4)))))]]) (cs1 := [w11 cA a1 z.2]) (bs1 := [w10 cA cR a0 u.2, w11 cA a1 z.2, [(q3, .inl (cL, 1, .inr (.inl f3)))], [(q4, .inl (cF, 1, .inr (.inr (.inr (.inl f4)))))]]) (rest := [.int u.1]) (st1 := [.int z.1, .int u.1]) ⟨hx, hb, hml, hown, hts⟩ hz hw hA (mX11_reset l D cA cR N a1 w z hz1) gL_law_X11_reset rfl rfl rfl (by decide +kernel) rfl ⟨Nat.le_of_ble_eq_true rfl, Nat.le_of_ble_eq_true rfl⟩ rfl rfl hl.1 rfl (Nat.le_of_ble_eq_true rfl) dL_law_1254 ⟨(by show _ ≤ 601024; omega), (by show _ ≤ 7293034; omega)⟩ [1] [0, 2, 3] [0, 3, 1, 2] rfl rfl rfl rfl rfl rfl (fun H locs hw => ?_)
  refine lv_icmp_eq (tgt := 1547) hx hb dL_law_1257 (by decide) (fun _ => ?_) (fun cc => absurd hret cc)
  refine W.widen (k := k0 + 1) (n := s0 + 6) (by omega) (by omega) ?_
  exact kk u.2 z.2 f3 f4 _ _ _ hR hw hl
set_option maxHeartbeats 4000000 in
set_option maxRecDepth 100000 in
theorem lk_20 {p : Program} {l : Launch} {e : Env} {s : State} {m : MethodId} {below : List Frame} {meth : Method} {c : Code} {D : va_G} {cA cR cL cF : ClassId} {b L : Nat} {xs : Nat → Int32} {RR : Nat → V10 → V11 → Prop} {N : Nat} (hpu : PU_events RR N) (X : LX p l s m c b L xs D cA cR cL cF) {k0 s0 : Nat} (hk0 : k0 + 1 ≤ 601024) (hs0 : s0 + 6 ≤ 7293034) {cn : Nat} (hcn : cn < 512) {x5 : Int32} {v : V10} {w : V11} {a0 : A10} {a1 : A11} {q3 q4 : Nat} {f3 : Nat → Int64} {f4 : Nat → UInt64} {H : Heap} {locs : List Loc} {ls : Array Slot} {Q : State → Prop} (hR : RR cn v w) (hw : ww (fun q : Nat => s.heap.size ≤ q) s.heap D [w10 cA cR a0 v, w11 cA a1 w, [(q3, .inl (cL, 1, .inr (.inl f3)))], [(q4, .inl (cF, 1, .inr (.inr (.inr (.inl f4)))))]] H locs) (hl : lv_has ls 9 [(0, .ref b), (1, .ref a0.1), (2, .ref a1.1), (3, .ref q3), (4, .ref q4), (5, .int x5)])
    (kk : ∀ (v : V10) (w : V11) (f3 : Nat → Int64) (f4 : Nat → UInt64) (H : Heap) (locs : List Loc) (ls : Array Slot), RR (cn + 1) v w → ww (fun q : Nat => s.heap.size ≤ q) s.heap D [w10 cA cR a0 v, w11 cA a1 w, [(q3, .inl (cL, 1, .inr (.inl f3)))], [(q4, .inl (cF, 1, .inr (.inr (.inr (.inl f4)))))]] H locs → lv_has ls 9 [(0, .ref b), (1, .ref a0.1), (2, .ref a1.1), (3, .ref q3), (4, .ref q4), (5, .int x5)] → W p l e room_1 s m #[Value.ref b] below meth c H locs (k0 + 1) (s0 + 6) Q (F0 m 1547 ls [])) : W p l e room_1 s m #[Value.ref b] below meth c H locs k0 s0 Q (F0 m 1262 ls []) := by
  obtain ⟨hx, hb, hml, hown, hts, hX, hbl, hz, hzl, hzx, hlt⟩ := X
  have hA : ∀ q : Nat, s.heap.size ≤ q → (fun q : Nat => s.heap.size ≤ q) q := fun _ h => h
  have hbA : ¬ (fun q : Nat => s.heap.size ≤ q) b := Nat.not_le.mpr hbl
  obtain ⟨u, z, hu, hz1, hret, hR⟩ := hpu cn v w hcn hR
  refine lv_aload_n hx hb dL_law_1262 rfl (lv_at hl 1 rfl) ?_
  refine k_callV (ci := 10) (C := RX10) (T := TX10) (N := 7) (nA := 0) (As := []) (cs := [w10 cA cR a0 v]) (rs := [w11 cA a1 w, [(q3, .inl (cL, 1, .inr (.inl f3)))], [(q4, .inl (cF, 1, .inr (.inr (.inr (.inl f4)))))]]) (cs1 := [w10 cA cR a0 v]) (bs1 := [w10 cA cR a0 v, w11 cA a1 w, [(q3, .inl (cL, 1, .inr (.inl f3)))], [(q4, .inl (cF, 1, .inr (.inr (.inr (.inl f4)))))]]) (rest := []) (st1 := [.int u]) ⟨hx, hb, hml, hown, hts⟩ hz hw hA (mX10_events l D cA cR a0 v u hu) gL_law_X10_events rfl rfl rfl (by decide +kernel) rfl ⟨Nat.le_of_ble_eq_true rfl, Nat.le_of_ble_eq_true rfl⟩ rfl rfl hl.1 rfl (Nat.le_of_ble_eq_true rfl) dL_law_1263 ⟨(by show _ ≤ 601024; omega), (by show _ ≤ 7293034; omega)⟩ [0] [1, 2, 3] [3, 0, 1, 2] rfl rfl rfl rfl rfl rfl (fun H locs hw => ?_)
  refine lv_aload_n hx hb dL_law_1266 rfl (lv_at hl 2 rfl) ?_
  refine k_callV (ci := 11) (C := RX11) (T := TX11) (N := 14) (nA := 0) (As := []) (cs := [w11 cA a1 w]) (rs := [w10 cA cR a0 v, [(q3, .inl (cL, 1, .inr (.inl f3)))], [(q4, .inl (cF, 1, .inr (.inr (.inr (.inl f4)))))]]) (cs1 := [w11 cA a1 z.2]) (bs1 := [w10 cA cR a0 v, w11 cA a1 z.2, [(q3, .inl (cL, 1, .inr (.inl f3)))], [(q4, .inl (cF, 1, .inr (.inr (.inr (.inl f4)))))]]) (rest := [.int u]) (st1 := [.int z.1, .int u]) ⟨hx, hb, hml, hown, hts⟩ hz hw hA (mX11_events l D cA cR a1 w z hz1) gL_law_X11_events rfl rfl rfl (by decide +kernel) rfl ⟨Nat.le_of_ble_eq_true rfl, Nat.le_of_ble_eq_true rfl⟩ rfl rfl hl.1 rfl (Nat.le_of_ble_eq_true rfl) dL_law_1267 ⟨(by show _ ≤ 601024; omega), (by show _ ≤ 7293034; omega)⟩ [1] [0, 2, 3] [0, 3, 1, 2] rfl rfl rfl rfl rfl rfl (fun H locs hw => ?_)
  refine lv_icmp_eq (tgt := 1547) hx hb dL_law_1270 (by decide) (fun _ => ?_) (fun cc => absurd hret cc)
  refine W.widen (k := k0 + 1) (n := s0 + 6) (by omega) (by omega) ?_
  exact kk v z.2 f3 f4 _ _ _ hR hw hl
set_option maxHeartbeats 4000000 in
set_option maxRecDepth 100000 in
theorem lk_21 {p : Program} {l : Launch} {e : Env} {s : State} {m : MethodId} {below : List Frame} {meth : Method} {c : Code} {D : va_G} {cA cR cL cF : ClassId} {b L : Nat} {xs : Nat → Int32} {RR : Nat → V10 → V11 → Prop} {N : Nat} (hpu : PU_event RR N) (X : LX p l s m c b L xs D cA cR cL cF) {k0 s0 : Nat} (hk0 : k0 + 1 ≤ 601024) (hs0 : s0 + 6 ≤ 7293034) {cn : Nat} (hcn : cn < 512) {x5 : Int32} {p1 : Int32} (h1 : vp_in (x5 + 1) L) (e1 : xs (x5 + 1).toNatClampNeg = p1) {p2 : Int32} (h2 : vp_in (x5 + 2) L) (e2 : xs (x5 + 2).toNatClampNeg = p2) {v : V10} {w : V11} {a0 : A10} {a1 : A11} {q3 q4 : Nat} {f3 : Nat → Int64} {f4 : Nat → UInt64} {H : Heap} {locs : List Loc} {ls : Array Slot} {Q : State → Prop} (hR : RR cn v w) (hw : ww (fun q : Nat => s.heap.size ≤ q) s.heap D [w10 cA cR a0 v, w11 cA a1 w, [(q3, .inl (cL, 1, .inr (.inl f3)))], [(q4, .inl (cF, 1, .inr (.inr (.inr (.inl f4)))))]] H locs) (hl : lv_has ls 9 [(0, .ref b), (1, .ref a0.1), (2, .ref a1.1), (3, .ref q3), (4, .ref q4), (5, .int x5)])
    (kk : ∀ (v : V10) (w : V11) (f3 : Nat → Int64) (f4 : Nat → UInt64) (H : Heap) (locs : List Loc) (ls : Array Slot), RR (cn + 1) v w → ww (fun q : Nat => s.heap.size ≤ q) s.heap D [w10 cA cR a0 v, w11 cA a1 w, [(q3, .inl (cL, 1, .inr (.inl f3)))], [(q4, .inl (cF, 1, .inr (.inr (.inr (.inl f4)))))]] H locs → lv_has ls 9 [(0, .ref b), (1, .ref a0.1), (2, .ref a1.1), (3, .ref q3), (4, .ref q4), (5, .int x5)] → W p l e room_1 s m #[Value.ref b] below meth c H locs (k0 + 1) (s0 + 6) Q (F0 m 1547 ls [])) : W p l e room_1 s m #[Value.ref b] below meth c H locs k0 s0 Q (F0 m 1275 ls []) := by
  obtain ⟨hx, hb, hml, hown, hts, hX, hbl, hz, hzl, hzx, hlt⟩ := X
  have hA : ∀ q : Nat, s.heap.size ≤ q → (fun q : Nat => s.heap.size ≤ q) q := fun _ h => h
  have hbA : ¬ (fun q : Nat => s.heap.size ≤ q) b := Nat.not_le.mpr hbl
  rcases hpu cn v w p1 p2 hcn hR with ⟨u, z, hu, hz1, hth, hret, hR⟩ | ⟨z, hu, hz1, hth, hR⟩ | ⟨z, hu, hz1, hth, hR⟩
  · skip
    refine lv_aload_n hx hb dL_law_1275 rfl (lv_at hl 1 rfl) ?_
    refine lv_aload_n hx hb dL_law_1276 rfl (lv_at hl 0 rfl) ?_
    refine lv_iload hx hb dL_law_1277 (lv_at hl 5 rfl) ?_
    refine lv_iconst (v := 1) hx hb dL_law_1279 (by decide) ?_
    refine lv_iadd hx hb dL_law_1280 ?_
    refine va_sld hx hb hX hbl hbA hw.2.2 h1 dL_law_1281 ?_
    refine lv_topi (fun y ey => ?_)
    obtain rfl : p1 = y := (ey.trans e1).symm
    refine lv_aload_n hx hb dL_law_1282 rfl (lv_at hl 0 rfl) ?_
    refine lv_iload hx hb dL_law_1283 (lv_at hl 5 rfl) ?_
    refine lv_iconst (v := 2) hx hb dL_law_1285 (by decide) ?_
    refine lv_iadd hx hb dL_law_1286 ?_
    refine va_sld hx hb hX hbl hbA hw.2.2 h2 dL_law_1287 ?_
    refine lv_topi (fun y ey => ?_)
    obtain rfl : p2 = y := (ey.trans e2).symm
    refine lv_aload_n hx hb dL_law_1288 rfl (lv_at hl 3 rfl) ?_
    refine k_call (cs := [w10 cA cR a0 v, [(q3, .inl (cL, 1, .inr (.inl f3)))]]) (rs := [w11 cA a1 w, [(q4, .inl (cF, 1, .inr (.inr (.inr (.inl f4)))))]]) (cs1 := [w10 cA cR a0 u.2, [(q3, .inl (cL, 1, .inr (.inl (vp_updL f3 (0 : Int32).toNatClampNeg u.1.toInt64))))]]) (bs1 := [w10 cA cR a0 u.2, w11 cA a1 w, [(q3, .inl (cL, 1, .inr (.inl (vp_updL f3 (0 : Int32).toNatClampNeg u.1.toInt64))))], [(q4, .inl (cF, 1, .inr (.inr (.inr (.inl f4)))))]]) (rest := []) (st1 := [.int (0 : Int32)]) hw hA [0, 2] [1, 3] [2, 0, 3, 1] rfl rfl rfl rfl rfl (k_runL (nA := 4) (As := [.ref a0.1, .int p1, .int p2, .ref q3]) (cs := [w10 cA cR a0 v, [(q3, .inl (cL, 1, .inr (.inl f3)))]]) (rs := [w11 cA a1 w, [(q4, .inl (cF, 1, .inr (.inr (.inr (.inl f4)))))]]) (rest := []) ⟨hx, hb, hml, hown, hts⟩ hz hzl hzx hw hA (mL_event l D cA cR cL cF N a0 v p1 p2 q3 f3 u hu) gL_law_L_event rfl rfl rfl (by decide +kernel) rfl ⟨Nat.le_of_ble_eq_true rfl, Nat.le_of_ble_eq_true rfl⟩ hl.1 rfl (Nat.le_of_ble_eq_true rfl) dL_law_1289 ⟨(by show _ ≤ 601024; omega), (by show _ ≤ 7293034; omega)⟩ [0, 2] [1, 3] rfl rfl rfl) rfl (fun H locs hw => ?_)
    refine lv_istore (lv' := [(6, .int (0 : Int32)), (0, .ref b), (1, .ref a0.1), (2, .ref a1.1), (3, .ref q3), (4, .ref q4), (5, .int x5)]) hx hb dL_law_1292 hl (by decide) rfl (fun ls hl => ?_)
    refine lv_aload_n hx hb dL_law_1294 rfl (lv_at hl 3 rfl) ?_
    refine lv_aload_n hx hb dL_law_1295 rfl (lv_at hl 1 rfl) ?_
    refine lv_iload hx hb dL_law_1296 (lv_at hl 6 rfl) ?_
    refine lv_iconst (v := 1) hx hb dL_law_1298 (by decide) ?_
    refine lv_iadd hx hb dL_law_1299 ?_
    refine va_sld hx hb hX hbl hbA hw.2.2 h1 dL_law_1300 ?_
    refine lv_topi (fun y ey => ?_)
    obtain rfl : p1 = y := (ey.trans e1).symm
    refine lv_aload_n hx hb dL_law_1301 rfl (lv_at hl 1 rfl) ?_
    refine lv_iload hx hb dL_law_1302 (lv_at hl 6 rfl) ?_
    refine lv_iconst (v := 2) hx hb dL_law_1304 (by decide) ?_
    refine lv_iadd hx hb dL_law_1305 ?_
    refine va_sld hx hb hX hbl hbA hw.2.2 h2 dL_law_1306 ?_
    refine lv_topi (fun y ey => ?_)
    obtain rfl : p2 = y := (ey.trans e2).symm
    refine k_callV (ci := 11) (C := RX11) (T := TX11) (N := 14) (nA := 2) (As := [.int p1, .int p2]) (cs := [w11 cA a1 w]) (rs := [w10 cA cR a0 u.2, [(q3, .inl (cL, 1, .inr (.inl (vp_updL f3 (0 : Int32).toNatClampNeg u.1.toInt64))))], [(q4, .inl (cF, 1, .inr (.inr (.inr (.inl f4)))))]]) (cs1 := [w11 cA a1 z.2]) (bs1 := [w10 cA cR a0 u.2, w11 cA a1 z.2, [(q3, .inl (cL, 1, .inr (.inl (vp_updL f3 (0 : Int32).toNatClampNeg u.1.toInt64))))], [(q4, .inl (cF, 1, .inr (.inr (.inr (.inl f4)))))]]) (rest := []) (st1 := [.int z.1]) ⟨hx, hb, hml, hown, hts⟩ hz hw hA (mX11_event l D cA cR N a1 w p1 p2 z hz1) gL_law_X11_event rfl rfl rfl (by decide +kernel) rfl ⟨Nat.le_of_ble_eq_true rfl, Nat.le_of_ble_eq_true rfl⟩ rfl rfl hl.1 rfl (Nat.le_of_ble_eq_true rfl) dL_law_1307 ⟨(by show _ ≤ 601024; omega), (by show _ ≤ 7293034; omega)⟩ [1] [0, 2, 3] [0, 3, 1, 2] rfl rfl rfl rfl rfl rfl (fun H locs hw => ?_)
    refine lv_istore (lv' := [(7, .int z.1), (6, .int (0 : Int32)), (0, .ref b), (1, .ref a0.1), (2, .ref a1.1), (3, .ref q3), (4, .ref q4), (5, .int x5)]) hx hb dL_law_1310 hl (by decide) rfl (fun ls hl => ?_)
    refine lv_aload_n hx hb dL_law_1312 rfl (lv_at hl 4 rfl) ?_
    refine k_callV (ci := 11) (C := RX11) (T := TX11) (N := 14) (nA := 0) (As := []) (cs := [w11 cA a1 z.2]) (rs := [w10 cA cR a0 u.2, [(q3, .inl (cL, 1, .inr (.inl (vp_updL f3 (0 : Int32).toNatClampNeg u.1.toInt64))))], [(q4, .inl (cF, 1, .inr (.inr (.inr (.inl f4)))))]]) (cs1 := [w11 cA a1 z.2]) (bs1 := [w10 cA cR a0 u.2, w11 cA a1 z.2, [(q3, .inl (cL, 1, .inr (.inl (vp_updL f3 (0 : Int32).toNatClampNeg u.1.toInt64))))], [(q4, .inl (cF, 1, .inr (.inr (.inr (.inl f4)))))]]) (rest := []) (st1 := [.int z.2.2.2.2.1]) ⟨hx, hb, hml, hown, hts⟩ hz hw hA (mX11_thrown l D cA cR a1 z.2 (z.2.2.2.2.1) rfl) gL_law_X11_thrown rfl rfl rfl (by decide +kernel) rfl ⟨Nat.le_of_ble_eq_true rfl, Nat.le_of_ble_eq_true rfl⟩ rfl rfl hl.1 rfl (Nat.le_of_ble_eq_true rfl) dL_law_1313 ⟨(by show _ ≤ 601024; omega), (by show _ ≤ 7293034; omega)⟩ [1] [0, 2, 3] [0, 3, 1, 2] rfl rfl rfl rfl rfl rfl (fun H locs hw => ?_)
    refine lv_iload hx hb dL_law_1316 (lv_at hl 1 rfl) ?_
    refine lv_icmp_eq (tgt := 1323) hx hb dL_law_1318 (by decide) (fun _ => ?_) (fun cc => absurd hth cc)
    refine lv_iload hx hb dL_law_1323 (lv_at hl 1 rfl) ?_
    refine lv_if_ne (tgt := 1340) hx hb dL_law_1325 (by decide) (fun cc => absurd rfl cc) (fun _ => ?_)
    refine lv_aload_n hx hb dL_law_1328 rfl (lv_at hl 5 rfl) ?_
    refine lv_iconst (v := 0) hx hb dL_law_1329 (by decide) ?_
    refine k_lald hx hb hzl hw 2 rfl (by unfold vp_in; decide) dL_law_1330 ?_
    refine lv_iload hx hb dL_law_1331 (lv_at hl 0 rfl) ?_
    refine lv_i2l hx hb dL_law_1333 rfl ?_
    refine W.lcmp hx hb dL_law_1334 ?_
    refine lv_if_eq (tgt := 1340) hx hb dL_law_1335 (by decide) (fun _ => ?_) (fun cc => absurd (lcmp_same (by rw [← hret]; exact pk_uLs)) cc)
    refine lv_goto (tgt := 1547) hx hb dL_law_1340 (by decide) ?_
    refine W.widen (k := k0 + 1) (n := s0 + 6) (by omega) (by omega) ?_
    exact kk u.2 z.2 (vp_updL f3 (0 : Int32).toNatClampNeg u.1.toInt64) f4 _ _ _ hR hw (lv_sub hl [2, 3, 4, 5, 6, 7] rfl)
  · skip
    refine lv_aload_n hx hb dL_law_1275 rfl (lv_at hl 1 rfl) ?_
    refine lv_aload_n hx hb dL_law_1276 rfl (lv_at hl 0 rfl) ?_
    refine lv_iload hx hb dL_law_1277 (lv_at hl 5 rfl) ?_
    refine lv_iconst (v := 1) hx hb dL_law_1279 (by decide) ?_
    refine lv_iadd hx hb dL_law_1280 ?_
    refine va_sld hx hb hX hbl hbA hw.2.2 h1 dL_law_1281 ?_
    refine lv_topi (fun y ey => ?_)
    obtain rfl : p1 = y := (ey.trans e1).symm
    refine lv_aload_n hx hb dL_law_1282 rfl (lv_at hl 0 rfl) ?_
    refine lv_iload hx hb dL_law_1283 (lv_at hl 5 rfl) ?_
    refine lv_iconst (v := 2) hx hb dL_law_1285 (by decide) ?_
    refine lv_iadd hx hb dL_law_1286 ?_
    refine va_sld hx hb hX hbl hbA hw.2.2 h2 dL_law_1287 ?_
    refine lv_topi (fun y ey => ?_)
    obtain rfl : p2 = y := (ey.trans e2).symm
    refine lv_aload_n hx hb dL_law_1288 rfl (lv_at hl 3 rfl) ?_
    refine k_call (cs := [w10 cA cR a0 v, [(q3, .inl (cL, 1, .inr (.inl f3)))]]) (rs := [w11 cA a1 w, [(q4, .inl (cF, 1, .inr (.inr (.inr (.inl f4)))))]]) (cs1 := [w10 cA cR a0 v, [(q3, .inl (cL, 1, .inr (.inl f3)))]]) (bs1 := [w10 cA cR a0 v, w11 cA a1 w, [(q3, .inl (cL, 1, .inr (.inl f3)))], [(q4, .inl (cF, 1, .inr (.inr (.inr (.inl f4)))))]]) (rest := []) (st1 := [.int (1 : Int32)]) hw hA [0, 2] [1, 3] [2, 0, 3, 1] rfl rfl rfl rfl rfl (k_runL (nA := 4) (As := [.ref a0.1, .int p1, .int p2, .ref q3]) (cs := [w10 cA cR a0 v, [(q3, .inl (cL, 1, .inr (.inl f3)))]]) (rs := [w11 cA a1 w, [(q4, .inl (cF, 1, .inr (.inr (.inr (.inl f4)))))]]) (rest := []) ⟨hx, hb, hml, hown, hts⟩ hz hzl hzx hw hA (t0L_event l hlt D cA cR cL cF N a0 v p1 p2 q3 f3 hu) gL_law_L_event rfl rfl rfl (by decide +kernel) rfl ⟨Nat.le_of_ble_eq_true rfl, Nat.le_of_ble_eq_true rfl⟩ hl.1 rfl (Nat.le_of_ble_eq_true rfl) dL_law_1289 ⟨(by show _ ≤ 601024; omega), (by show _ ≤ 7293034; omega)⟩ [0, 2] [1, 3] rfl rfl rfl) rfl (fun H locs hw => ?_)
    refine lv_istore (lv' := [(6, .int (1 : Int32)), (0, .ref b), (1, .ref a0.1), (2, .ref a1.1), (3, .ref q3), (4, .ref q4), (5, .int x5)]) hx hb dL_law_1292 hl (by decide) rfl (fun ls hl => ?_)
    refine lv_aload_n hx hb dL_law_1294 rfl (lv_at hl 3 rfl) ?_
    refine lv_aload_n hx hb dL_law_1295 rfl (lv_at hl 1 rfl) ?_
    refine lv_iload hx hb dL_law_1296 (lv_at hl 6 rfl) ?_
    refine lv_iconst (v := 1) hx hb dL_law_1298 (by decide) ?_
    refine lv_iadd hx hb dL_law_1299 ?_
    refine va_sld hx hb hX hbl hbA hw.2.2 h1 dL_law_1300 ?_
    refine lv_topi (fun y ey => ?_)
    obtain rfl : p1 = y := (ey.trans e1).symm
    refine lv_aload_n hx hb dL_law_1301 rfl (lv_at hl 1 rfl) ?_
    refine lv_iload hx hb dL_law_1302 (lv_at hl 6 rfl) ?_
    refine lv_iconst (v := 2) hx hb dL_law_1304 (by decide) ?_
    refine lv_iadd hx hb dL_law_1305 ?_
    refine va_sld hx hb hX hbl hbA hw.2.2 h2 dL_law_1306 ?_
    refine lv_topi (fun y ey => ?_)
    obtain rfl : p2 = y := (ey.trans e2).symm
    refine k_callV (ci := 11) (C := RX11) (T := TX11) (N := 14) (nA := 2) (As := [.int p1, .int p2]) (cs := [w11 cA a1 w]) (rs := [w10 cA cR a0 v, [(q3, .inl (cL, 1, .inr (.inl f3)))], [(q4, .inl (cF, 1, .inr (.inr (.inr (.inl f4)))))]]) (cs1 := [w11 cA a1 z.2]) (bs1 := [w10 cA cR a0 v, w11 cA a1 z.2, [(q3, .inl (cL, 1, .inr (.inl f3)))], [(q4, .inl (cF, 1, .inr (.inr (.inr (.inl f4)))))]]) (rest := []) (st1 := [.int z.1]) ⟨hx, hb, hml, hown, hts⟩ hz hw hA (mX11_event l D cA cR N a1 w p1 p2 z hz1) gL_law_X11_event rfl rfl rfl (by decide +kernel) rfl ⟨Nat.le_of_ble_eq_true rfl, Nat.le_of_ble_eq_true rfl⟩ rfl rfl hl.1 rfl (Nat.le_of_ble_eq_true rfl) dL_law_1307 ⟨(by show _ ≤ 601024; omega), (by show _ ≤ 7293034; omega)⟩ [1] [0, 2, 3] [0, 3, 1, 2] rfl rfl rfl rfl rfl rfl (fun H locs hw => ?_)
    refine lv_istore (lv' := [(7, .int z.1), (6, .int (1 : Int32)), (0, .ref b), (1, .ref a0.1), (2, .ref a1.1), (3, .ref q3), (4, .ref q4), (5, .int x5)]) hx hb dL_law_1310 hl (by decide) rfl (fun ls hl => ?_)
    refine lv_aload_n hx hb dL_law_1312 rfl (lv_at hl 4 rfl) ?_
    refine k_callV (ci := 11) (C := RX11) (T := TX11) (N := 14) (nA := 0) (As := []) (cs := [w11 cA a1 z.2]) (rs := [w10 cA cR a0 v, [(q3, .inl (cL, 1, .inr (.inl f3)))], [(q4, .inl (cF, 1, .inr (.inr (.inr (.inl f4)))))]]) (cs1 := [w11 cA a1 z.2]) (bs1 := [w10 cA cR a0 v, w11 cA a1 z.2, [(q3, .inl (cL, 1, .inr (.inl f3)))], [(q4, .inl (cF, 1, .inr (.inr (.inr (.inl f4)))))]]) (rest := []) (st1 := [.int z.2.2.2.2.1]) ⟨hx, hb, hml, hown, hts⟩ hz hw hA (mX11_thrown l D cA cR a1 z.2 (z.2.2.2.2.1) rfl) gL_law_X11_thrown rfl rfl rfl (by decide +kernel) rfl ⟨Nat.le_of_ble_eq_true rfl, Nat.le_of_ble_eq_true rfl⟩ rfl rfl hl.1 rfl (Nat.le_of_ble_eq_true rfl) dL_law_1313 ⟨(by show _ ≤ 601024; omega), (by show _ ≤ 7293034; omega)⟩ [1] [0, 2, 3] [0, 3, 1, 2] rfl rfl rfl rfl rfl rfl (fun H locs hw => ?_)
    refine lv_iload hx hb dL_law_1316 (lv_at hl 1 rfl) ?_
    refine lv_icmp_eq (tgt := 1323) hx hb dL_law_1318 (by decide) (fun _ => ?_) (fun cc => absurd hth cc)
    refine lv_iload hx hb dL_law_1323 (lv_at hl 1 rfl) ?_
    refine lv_if_ne (tgt := 1340) hx hb dL_law_1325 (by decide) (fun _ => ?_) (fun cc => absurd cc (by decide))
    refine lv_goto (tgt := 1547) hx hb dL_law_1340 (by decide) ?_
    refine W.widen (k := k0 + 1) (n := s0 + 6) (by omega) (by omega) ?_
    exact kk v z.2 f3 f4 _ _ _ hR hw (lv_sub hl [2, 3, 4, 5, 6, 7] rfl)
  · skip
    refine lv_aload_n hx hb dL_law_1275 rfl (lv_at hl 1 rfl) ?_
    refine lv_aload_n hx hb dL_law_1276 rfl (lv_at hl 0 rfl) ?_
    refine lv_iload hx hb dL_law_1277 (lv_at hl 5 rfl) ?_
    refine lv_iconst (v := 1) hx hb dL_law_1279 (by decide) ?_
    refine lv_iadd hx hb dL_law_1280 ?_
    refine va_sld hx hb hX hbl hbA hw.2.2 h1 dL_law_1281 ?_
    refine lv_topi (fun y ey => ?_)
    obtain rfl : p1 = y := (ey.trans e1).symm
    refine lv_aload_n hx hb dL_law_1282 rfl (lv_at hl 0 rfl) ?_
    refine lv_iload hx hb dL_law_1283 (lv_at hl 5 rfl) ?_
    refine lv_iconst (v := 2) hx hb dL_law_1285 (by decide) ?_
    refine lv_iadd hx hb dL_law_1286 ?_
    refine va_sld hx hb hX hbl hbA hw.2.2 h2 dL_law_1287 ?_
    refine lv_topi (fun y ey => ?_)
    obtain rfl : p2 = y := (ey.trans e2).symm
    refine lv_aload_n hx hb dL_law_1288 rfl (lv_at hl 3 rfl) ?_
    refine k_call (cs := [w10 cA cR a0 v, [(q3, .inl (cL, 1, .inr (.inl f3)))]]) (rs := [w11 cA a1 w, [(q4, .inl (cF, 1, .inr (.inr (.inr (.inl f4)))))]]) (cs1 := [w10 cA cR a0 v, [(q3, .inl (cL, 1, .inr (.inl f3)))]]) (bs1 := [w10 cA cR a0 v, w11 cA a1 w, [(q3, .inl (cL, 1, .inr (.inl f3)))], [(q4, .inl (cF, 1, .inr (.inr (.inr (.inl f4)))))]]) (rest := []) (st1 := [.int (2 : Int32)]) hw hA [0, 2] [1, 3] [2, 0, 3, 1] rfl rfl rfl rfl rfl (k_runL (nA := 4) (As := [.ref a0.1, .int p1, .int p2, .ref q3]) (cs := [w10 cA cR a0 v, [(q3, .inl (cL, 1, .inr (.inl f3)))]]) (rs := [w11 cA a1 w, [(q4, .inl (cF, 1, .inr (.inr (.inr (.inl f4)))))]]) (rest := []) ⟨hx, hb, hml, hown, hts⟩ hz hzl hzx hw hA (t1L_event l hlt D cA cR cL cF N a0 v p1 p2 q3 f3 hu) gL_law_L_event rfl rfl rfl (by decide +kernel) rfl ⟨Nat.le_of_ble_eq_true rfl, Nat.le_of_ble_eq_true rfl⟩ hl.1 rfl (Nat.le_of_ble_eq_true rfl) dL_law_1289 ⟨(by show _ ≤ 601024; omega), (by show _ ≤ 7293034; omega)⟩ [0, 2] [1, 3] rfl rfl rfl) rfl (fun H locs hw => ?_)
    refine lv_istore (lv' := [(6, .int (2 : Int32)), (0, .ref b), (1, .ref a0.1), (2, .ref a1.1), (3, .ref q3), (4, .ref q4), (5, .int x5)]) hx hb dL_law_1292 hl (by decide) rfl (fun ls hl => ?_)
    refine lv_aload_n hx hb dL_law_1294 rfl (lv_at hl 3 rfl) ?_
    refine lv_aload_n hx hb dL_law_1295 rfl (lv_at hl 1 rfl) ?_
    refine lv_iload hx hb dL_law_1296 (lv_at hl 6 rfl) ?_
    refine lv_iconst (v := 1) hx hb dL_law_1298 (by decide) ?_
    refine lv_iadd hx hb dL_law_1299 ?_
    refine va_sld hx hb hX hbl hbA hw.2.2 h1 dL_law_1300 ?_
    refine lv_topi (fun y ey => ?_)
    obtain rfl : p1 = y := (ey.trans e1).symm
    refine lv_aload_n hx hb dL_law_1301 rfl (lv_at hl 1 rfl) ?_
    refine lv_iload hx hb dL_law_1302 (lv_at hl 6 rfl) ?_
    refine lv_iconst (v := 2) hx hb dL_law_1304 (by decide) ?_
    refine lv_iadd hx hb dL_law_1305 ?_
    refine va_sld hx hb hX hbl hbA hw.2.2 h2 dL_law_1306 ?_
    refine lv_topi (fun y ey => ?_)
    obtain rfl : p2 = y := (ey.trans e2).symm
    refine k_callV (ci := 11) (C := RX11) (T := TX11) (N := 14) (nA := 2) (As := [.int p1, .int p2]) (cs := [w11 cA a1 w]) (rs := [w10 cA cR a0 v, [(q3, .inl (cL, 1, .inr (.inl f3)))], [(q4, .inl (cF, 1, .inr (.inr (.inr (.inl f4)))))]]) (cs1 := [w11 cA a1 z.2]) (bs1 := [w10 cA cR a0 v, w11 cA a1 z.2, [(q3, .inl (cL, 1, .inr (.inl f3)))], [(q4, .inl (cF, 1, .inr (.inr (.inr (.inl f4)))))]]) (rest := []) (st1 := [.int z.1]) ⟨hx, hb, hml, hown, hts⟩ hz hw hA (mX11_event l D cA cR N a1 w p1 p2 z hz1) gL_law_X11_event rfl rfl rfl (by decide +kernel) rfl ⟨Nat.le_of_ble_eq_true rfl, Nat.le_of_ble_eq_true rfl⟩ rfl rfl hl.1 rfl (Nat.le_of_ble_eq_true rfl) dL_law_1307 ⟨(by show _ ≤ 601024; omega), (by show _ ≤ 7293034; omega)⟩ [1] [0, 2, 3] [0, 3, 1, 2] rfl rfl rfl rfl rfl rfl (fun H locs hw => ?_)
    refine lv_istore (lv' := [(7, .int z.1), (6, .int (2 : Int32)), (0, .ref b), (1, .ref a0.1), (2, .ref a1.1), (3, .ref q3), (4, .ref q4), (5, .int x5)]) hx hb dL_law_1310 hl (by decide) rfl (fun ls hl => ?_)
    refine lv_aload_n hx hb dL_law_1312 rfl (lv_at hl 4 rfl) ?_
    refine k_callV (ci := 11) (C := RX11) (T := TX11) (N := 14) (nA := 0) (As := []) (cs := [w11 cA a1 z.2]) (rs := [w10 cA cR a0 v, [(q3, .inl (cL, 1, .inr (.inl f3)))], [(q4, .inl (cF, 1, .inr (.inr (.inr (.inl f4)))))]]) (cs1 := [w11 cA a1 z.2]) (bs1 := [w10 cA cR a0 v, w11 cA a1 z.2, [(q3, .inl (cL, 1, .inr (.inl f3)))], [(q4, .inl (cF, 1, .inr (.inr (.inr (.inl f4)))))]]) (rest := []) (st1 := [.int z.2.2.2.2.1]) ⟨hx, hb, hml, hown, hts⟩ hz hw hA (mX11_thrown l D cA cR a1 z.2 (z.2.2.2.2.1) rfl) gL_law_X11_thrown rfl rfl rfl (by decide +kernel) rfl ⟨Nat.le_of_ble_eq_true rfl, Nat.le_of_ble_eq_true rfl⟩ rfl rfl hl.1 rfl (Nat.le_of_ble_eq_true rfl) dL_law_1313 ⟨(by show _ ≤ 601024; omega), (by show _ ≤ 7293034; omega)⟩ [1] [0, 2, 3] [0, 3, 1, 2] rfl rfl rfl rfl rfl rfl (fun H locs hw => ?_)
    refine lv_iload hx hb dL_law_1316 (lv_at hl 1 rfl) ?_
    refine lv_icmp_eq (tgt := 1323) hx hb dL_law_1318 (by decide) (fun _ => ?_) (fun cc => absurd hth cc)
    refine lv_iload hx hb dL_law_1323 (lv_at hl 1 rfl) ?_
    refine lv_if_ne (tgt := 1340) hx hb dL_law_1325 (by decide) (fun _ => ?_) (fun cc => absurd cc (by decide))
    refine lv_goto (tgt := 1547) hx hb dL_law_1340 (by decide) ?_
    refine W.widen (k := k0 + 1) (n := s0 + 6) (by omega) (by omega) ?_
    exact kk v z.2 f3 f4 _ _ _ hR hw (lv_sub hl [2, 3, 4, 5, 6, 7] rfl)
set_option maxHeartbeats 4000000 in
set_option maxRecDepth 100000 in
theorem lk_22 {p : Program} {l : Launch} {e : Env} {s : State} {m : MethodId} {below : List Frame} {meth : Method} {c : Code} {D : va_G} {cA cR cL cF : ClassId} {b L : Nat} {xs : Nat → Int32} {RR : Nat → V10 → V11 → Prop} {N : Nat} (hpu : PU_chainLength RR N) (X : LX p l s m c b L xs D cA cR cL cF) {k0 s0 : Nat} (hk0 : k0 + 1 ≤ 601024) (hs0 : s0 + 6 ≤ 7293034) {cn : Nat} (hcn : cn < 512) {x5 : Int32} {p1 : Int32} (h1 : vp_in (x5 + 1) L) (e1 : xs (x5 + 1).toNatClampNeg = p1) {v : V10} {w : V11} {a0 : A10} {a1 : A11} {q3 q4 : Nat} {f3 : Nat → Int64} {f4 : Nat → UInt64} {H : Heap} {locs : List Loc} {ls : Array Slot} {Q : State → Prop} (hR : RR cn v w) (hw : ww (fun q : Nat => s.heap.size ≤ q) s.heap D [w10 cA cR a0 v, w11 cA a1 w, [(q3, .inl (cL, 1, .inr (.inl f3)))], [(q4, .inl (cF, 1, .inr (.inr (.inr (.inl f4)))))]] H locs) (hl : lv_has ls 9 [(0, .ref b), (1, .ref a0.1), (2, .ref a1.1), (3, .ref q3), (4, .ref q4), (5, .int x5)])
    (kk : ∀ (v : V10) (w : V11) (f3 : Nat → Int64) (f4 : Nat → UInt64) (H : Heap) (locs : List Loc) (ls : Array Slot), RR (cn + 1) v w → ww (fun q : Nat => s.heap.size ≤ q) s.heap D [w10 cA cR a0 v, w11 cA a1 w, [(q3, .inl (cL, 1, .inr (.inl f3)))], [(q4, .inl (cF, 1, .inr (.inr (.inr (.inl f4)))))]] H locs → lv_has ls 9 [(0, .ref b), (1, .ref a0.1), (2, .ref a1.1), (3, .ref q3), (4, .ref q4), (5, .int x5)] → W p l e room_1 s m #[Value.ref b] below meth c H locs (k0 + 1) (s0 + 6) Q (F0 m 1547 ls [])) : W p l e room_1 s m #[Value.ref b] below meth c H locs k0 s0 Q (F0 m 1343 ls []) := by
  obtain ⟨hx, hb, hml, hown, hts, hX, hbl, hz, hzl, hzx, hlt⟩ := X
  have hA : ∀ q : Nat, s.heap.size ≤ q → (fun q : Nat => s.heap.size ≤ q) q := fun _ h => h
  have hbA : ¬ (fun q : Nat => s.heap.size ≤ q) b := Nat.not_le.mpr hbl
  rcases hpu cn v w p1 hcn hR with ⟨u, z, hu, hz1, hth, hret, hR⟩ | ⟨z, hu, hz1, hth, hR⟩
  · skip
    refine lv_aload_n hx hb dL_law_1343 rfl (lv_at hl 1 rfl) ?_
    refine lv_aload_n hx hb dL_law_1344 rfl (lv_at hl 0 rfl) ?_
    refine lv_iload hx hb dL_law_1345 (lv_at hl 5 rfl) ?_
    refine lv_iconst (v := 1) hx hb dL_law_1347 (by decide) ?_
    refine lv_iadd hx hb dL_law_1348 ?_
    refine va_sld hx hb hX hbl hbA hw.2.2 h1 dL_law_1349 ?_
    refine lv_topi (fun y ey => ?_)
    obtain rfl : p1 = y := (ey.trans e1).symm
    refine lv_aload_n hx hb dL_law_1350 rfl (lv_at hl 3 rfl) ?_
    refine k_call (cs := [w10 cA cR a0 v, [(q3, .inl (cL, 1, .inr (.inl f3)))]]) (rs := [w11 cA a1 w, [(q4, .inl (cF, 1, .inr (.inr (.inr (.inl f4)))))]]) (cs1 := [w10 cA cR a0 u.2, [(q3, .inl (cL, 1, .inr (.inl (vp_updL f3 (0 : Int32).toNatClampNeg u.1.toInt64))))]]) (bs1 := [w10 cA cR a0 u.2, w11 cA a1 w, [(q3, .inl (cL, 1, .inr (.inl (vp_updL f3 (0 : Int32).toNatClampNeg u.1.toInt64))))], [(q4, .inl (cF, 1, .inr (.inr (.inr (.inl f4)))))]]) (rest := []) (st1 := [.int (0 : Int32)]) hw hA [0, 2] [1, 3] [2, 0, 3, 1] rfl rfl rfl rfl rfl (k_runL (nA := 3) (As := [.ref a0.1, .int p1, .ref q3]) (cs := [w10 cA cR a0 v, [(q3, .inl (cL, 1, .inr (.inl f3)))]]) (rs := [w11 cA a1 w, [(q4, .inl (cF, 1, .inr (.inr (.inr (.inl f4)))))]]) (rest := []) ⟨hx, hb, hml, hown, hts⟩ hz hzl hzx hw hA (mL_chainLength l D cA cR cL cF N a0 v p1 q3 f3 u hu) gL_law_L_chainLength rfl rfl rfl (by decide +kernel) rfl ⟨Nat.le_of_ble_eq_true rfl, Nat.le_of_ble_eq_true rfl⟩ hl.1 rfl (Nat.le_of_ble_eq_true rfl) dL_law_1351 ⟨(by show _ ≤ 601024; omega), (by show _ ≤ 7293034; omega)⟩ [0, 2] [1, 3] rfl rfl rfl) rfl (fun H locs hw => ?_)
    refine lv_istore (lv' := [(6, .int (0 : Int32)), (0, .ref b), (1, .ref a0.1), (2, .ref a1.1), (3, .ref q3), (4, .ref q4), (5, .int x5)]) hx hb dL_law_1354 hl (by decide) rfl (fun ls hl => ?_)
    refine lv_aload_n hx hb dL_law_1356 rfl (lv_at hl 3 rfl) ?_
    refine lv_aload_n hx hb dL_law_1357 rfl (lv_at hl 1 rfl) ?_
    refine lv_iload hx hb dL_law_1358 (lv_at hl 6 rfl) ?_
    refine lv_iconst (v := 1) hx hb dL_law_1360 (by decide) ?_
    refine lv_iadd hx hb dL_law_1361 ?_
    refine va_sld hx hb hX hbl hbA hw.2.2 h1 dL_law_1362 ?_
    refine lv_topi (fun y ey => ?_)
    obtain rfl : p1 = y := (ey.trans e1).symm
    refine k_callV (ci := 11) (C := RX11) (T := TX11) (N := 14) (nA := 1) (As := [.int p1]) (cs := [w11 cA a1 w]) (rs := [w10 cA cR a0 u.2, [(q3, .inl (cL, 1, .inr (.inl (vp_updL f3 (0 : Int32).toNatClampNeg u.1.toInt64))))], [(q4, .inl (cF, 1, .inr (.inr (.inr (.inl f4)))))]]) (cs1 := [w11 cA a1 z.2]) (bs1 := [w10 cA cR a0 u.2, w11 cA a1 z.2, [(q3, .inl (cL, 1, .inr (.inl (vp_updL f3 (0 : Int32).toNatClampNeg u.1.toInt64))))], [(q4, .inl (cF, 1, .inr (.inr (.inr (.inl f4)))))]]) (rest := []) (st1 := [.int z.1]) ⟨hx, hb, hml, hown, hts⟩ hz hw hA (mX11_chainLength l D cA cR N a1 w p1 z hz1) gL_law_X11_chainLength rfl rfl rfl (by decide +kernel) rfl ⟨Nat.le_of_ble_eq_true rfl, Nat.le_of_ble_eq_true rfl⟩ rfl rfl hl.1 rfl (Nat.le_of_ble_eq_true rfl) dL_law_1363 ⟨(by show _ ≤ 601024; omega), (by show _ ≤ 7293034; omega)⟩ [1] [0, 2, 3] [0, 3, 1, 2] rfl rfl rfl rfl rfl rfl (fun H locs hw => ?_)
    refine lv_istore (lv' := [(7, .int z.1), (6, .int (0 : Int32)), (0, .ref b), (1, .ref a0.1), (2, .ref a1.1), (3, .ref q3), (4, .ref q4), (5, .int x5)]) hx hb dL_law_1366 hl (by decide) rfl (fun ls hl => ?_)
    refine lv_aload_n hx hb dL_law_1368 rfl (lv_at hl 4 rfl) ?_
    refine k_callV (ci := 11) (C := RX11) (T := TX11) (N := 14) (nA := 0) (As := []) (cs := [w11 cA a1 z.2]) (rs := [w10 cA cR a0 u.2, [(q3, .inl (cL, 1, .inr (.inl (vp_updL f3 (0 : Int32).toNatClampNeg u.1.toInt64))))], [(q4, .inl (cF, 1, .inr (.inr (.inr (.inl f4)))))]]) (cs1 := [w11 cA a1 z.2]) (bs1 := [w10 cA cR a0 u.2, w11 cA a1 z.2, [(q3, .inl (cL, 1, .inr (.inl (vp_updL f3 (0 : Int32).toNatClampNeg u.1.toInt64))))], [(q4, .inl (cF, 1, .inr (.inr (.inr (.inl f4)))))]]) (rest := []) (st1 := [.int z.2.2.2.2.1]) ⟨hx, hb, hml, hown, hts⟩ hz hw hA (mX11_thrown l D cA cR a1 z.2 (z.2.2.2.2.1) rfl) gL_law_X11_thrown rfl rfl rfl (by decide +kernel) rfl ⟨Nat.le_of_ble_eq_true rfl, Nat.le_of_ble_eq_true rfl⟩ rfl rfl hl.1 rfl (Nat.le_of_ble_eq_true rfl) dL_law_1369 ⟨(by show _ ≤ 601024; omega), (by show _ ≤ 7293034; omega)⟩ [1] [0, 2, 3] [0, 3, 1, 2] rfl rfl rfl rfl rfl rfl (fun H locs hw => ?_)
    refine lv_iload hx hb dL_law_1372 (lv_at hl 1 rfl) ?_
    refine lv_icmp_eq (tgt := 1379) hx hb dL_law_1374 (by decide) (fun _ => ?_) (fun cc => absurd hth cc)
    refine lv_iload hx hb dL_law_1379 (lv_at hl 1 rfl) ?_
    refine lv_if_ne (tgt := 1396) hx hb dL_law_1381 (by decide) (fun cc => absurd rfl cc) (fun _ => ?_)
    refine lv_aload_n hx hb dL_law_1384 rfl (lv_at hl 5 rfl) ?_
    refine lv_iconst (v := 0) hx hb dL_law_1385 (by decide) ?_
    refine k_lald hx hb hzl hw 2 rfl (by unfold vp_in; decide) dL_law_1386 ?_
    refine lv_iload hx hb dL_law_1387 (lv_at hl 0 rfl) ?_
    refine lv_i2l hx hb dL_law_1389 rfl ?_
    refine W.lcmp hx hb dL_law_1390 ?_
    refine lv_if_eq (tgt := 1396) hx hb dL_law_1391 (by decide) (fun _ => ?_) (fun cc => absurd (lcmp_same (by rw [← hret]; exact pk_uLs)) cc)
    refine lv_goto (tgt := 1547) hx hb dL_law_1396 (by decide) ?_
    refine W.widen (k := k0 + 1) (n := s0 + 6) (by omega) (by omega) ?_
    exact kk u.2 z.2 (vp_updL f3 (0 : Int32).toNatClampNeg u.1.toInt64) f4 _ _ _ hR hw (lv_sub hl [2, 3, 4, 5, 6, 7] rfl)
  · skip
    refine lv_aload_n hx hb dL_law_1343 rfl (lv_at hl 1 rfl) ?_
    refine lv_aload_n hx hb dL_law_1344 rfl (lv_at hl 0 rfl) ?_
    refine lv_iload hx hb dL_law_1345 (lv_at hl 5 rfl) ?_
    refine lv_iconst (v := 1) hx hb dL_law_1347 (by decide) ?_
    refine lv_iadd hx hb dL_law_1348 ?_
    refine va_sld hx hb hX hbl hbA hw.2.2 h1 dL_law_1349 ?_
    refine lv_topi (fun y ey => ?_)
    obtain rfl : p1 = y := (ey.trans e1).symm
    refine lv_aload_n hx hb dL_law_1350 rfl (lv_at hl 3 rfl) ?_
    refine k_call (cs := [w10 cA cR a0 v, [(q3, .inl (cL, 1, .inr (.inl f3)))]]) (rs := [w11 cA a1 w, [(q4, .inl (cF, 1, .inr (.inr (.inr (.inl f4)))))]]) (cs1 := [w10 cA cR a0 v, [(q3, .inl (cL, 1, .inr (.inl f3)))]]) (bs1 := [w10 cA cR a0 v, w11 cA a1 w, [(q3, .inl (cL, 1, .inr (.inl f3)))], [(q4, .inl (cF, 1, .inr (.inr (.inr (.inl f4)))))]]) (rest := []) (st1 := [.int (1 : Int32)]) hw hA [0, 2] [1, 3] [2, 0, 3, 1] rfl rfl rfl rfl rfl (k_runL (nA := 3) (As := [.ref a0.1, .int p1, .ref q3]) (cs := [w10 cA cR a0 v, [(q3, .inl (cL, 1, .inr (.inl f3)))]]) (rs := [w11 cA a1 w, [(q4, .inl (cF, 1, .inr (.inr (.inr (.inl f4)))))]]) (rest := []) ⟨hx, hb, hml, hown, hts⟩ hz hzl hzx hw hA (t0L_chainLength l hlt D cA cR cL cF N a0 v p1 q3 f3 hu) gL_law_L_chainLength rfl rfl rfl (by decide +kernel) rfl ⟨Nat.le_of_ble_eq_true rfl, Nat.le_of_ble_eq_true rfl⟩ hl.1 rfl (Nat.le_of_ble_eq_true rfl) dL_law_1351 ⟨(by show _ ≤ 601024; omega), (by show _ ≤ 7293034; omega)⟩ [0, 2] [1, 3] rfl rfl rfl) rfl (fun H locs hw => ?_)
    refine lv_istore (lv' := [(6, .int (1 : Int32)), (0, .ref b), (1, .ref a0.1), (2, .ref a1.1), (3, .ref q3), (4, .ref q4), (5, .int x5)]) hx hb dL_law_1354 hl (by decide) rfl (fun ls hl => ?_)
    refine lv_aload_n hx hb dL_law_1356 rfl (lv_at hl 3 rfl) ?_
    refine lv_aload_n hx hb dL_law_1357 rfl (lv_at hl 1 rfl) ?_
    refine lv_iload hx hb dL_law_1358 (lv_at hl 6 rfl) ?_
    refine lv_iconst (v := 1) hx hb dL_law_1360 (by decide) ?_
    refine lv_iadd hx hb dL_law_1361 ?_
    refine va_sld hx hb hX hbl hbA hw.2.2 h1 dL_law_1362 ?_
    refine lv_topi (fun y ey => ?_)
    obtain rfl : p1 = y := (ey.trans e1).symm
    refine k_callV (ci := 11) (C := RX11) (T := TX11) (N := 14) (nA := 1) (As := [.int p1]) (cs := [w11 cA a1 w]) (rs := [w10 cA cR a0 v, [(q3, .inl (cL, 1, .inr (.inl f3)))], [(q4, .inl (cF, 1, .inr (.inr (.inr (.inl f4)))))]]) (cs1 := [w11 cA a1 z.2]) (bs1 := [w10 cA cR a0 v, w11 cA a1 z.2, [(q3, .inl (cL, 1, .inr (.inl f3)))], [(q4, .inl (cF, 1, .inr (.inr (.inr (.inl f4)))))]]) (rest := []) (st1 := [.int z.1]) ⟨hx, hb, hml, hown, hts⟩ hz hw hA (mX11_chainLength l D cA cR N a1 w p1 z hz1) gL_law_X11_chainLength rfl rfl rfl (by decide +kernel) rfl ⟨Nat.le_of_ble_eq_true rfl, Nat.le_of_ble_eq_true rfl⟩ rfl rfl hl.1 rfl (Nat.le_of_ble_eq_true rfl) dL_law_1363 ⟨(by show _ ≤ 601024; omega), (by show _ ≤ 7293034; omega)⟩ [1] [0, 2, 3] [0, 3, 1, 2] rfl rfl rfl rfl rfl rfl (fun H locs hw => ?_)
    refine lv_istore (lv' := [(7, .int z.1), (6, .int (1 : Int32)), (0, .ref b), (1, .ref a0.1), (2, .ref a1.1), (3, .ref q3), (4, .ref q4), (5, .int x5)]) hx hb dL_law_1366 hl (by decide) rfl (fun ls hl => ?_)
    refine lv_aload_n hx hb dL_law_1368 rfl (lv_at hl 4 rfl) ?_
    refine k_callV (ci := 11) (C := RX11) (T := TX11) (N := 14) (nA := 0) (As := []) (cs := [w11 cA a1 z.2]) (rs := [w10 cA cR a0 v, [(q3, .inl (cL, 1, .inr (.inl f3)))], [(q4, .inl (cF, 1, .inr (.inr (.inr (.inl f4)))))]]) (cs1 := [w11 cA a1 z.2]) (bs1 := [w10 cA cR a0 v, w11 cA a1 z.2, [(q3, .inl (cL, 1, .inr (.inl f3)))], [(q4, .inl (cF, 1, .inr (.inr (.inr (.inl f4)))))]]) (rest := []) (st1 := [.int z.2.2.2.2.1]) ⟨hx, hb, hml, hown, hts⟩ hz hw hA (mX11_thrown l D cA cR a1 z.2 (z.2.2.2.2.1) rfl) gL_law_X11_thrown rfl rfl rfl (by decide +kernel) rfl ⟨Nat.le_of_ble_eq_true rfl, Nat.le_of_ble_eq_true rfl⟩ rfl rfl hl.1 rfl (Nat.le_of_ble_eq_true rfl) dL_law_1369 ⟨(by show _ ≤ 601024; omega), (by show _ ≤ 7293034; omega)⟩ [1] [0, 2, 3] [0, 3, 1, 2] rfl rfl rfl rfl rfl rfl (fun H locs hw => ?_)
    refine lv_iload hx hb dL_law_1372 (lv_at hl 1 rfl) ?_
    refine lv_icmp_eq (tgt := 1379) hx hb dL_law_1374 (by decide) (fun _ => ?_) (fun cc => absurd hth cc)
    refine lv_iload hx hb dL_law_1379 (lv_at hl 1 rfl) ?_
    refine lv_if_ne (tgt := 1396) hx hb dL_law_1381 (by decide) (fun _ => ?_) (fun cc => absurd cc (by decide))
    refine lv_goto (tgt := 1547) hx hb dL_law_1396 (by decide) ?_
    refine W.widen (k := k0 + 1) (n := s0 + 6) (by omega) (by omega) ?_
    exact kk v z.2 f3 f4 _ _ _ hR hw (lv_sub hl [2, 3, 4, 5, 6, 7] rfl)
set_option maxHeartbeats 4000000 in
set_option maxRecDepth 100000 in
theorem lk_23 {p : Program} {l : Launch} {e : Env} {s : State} {m : MethodId} {below : List Frame} {meth : Method} {c : Code} {D : va_G} {cA cR cL cF : ClassId} {b L : Nat} {xs : Nat → Int32} {RR : Nat → V10 → V11 → Prop} {N : Nat} (hpu : PU_chains RR N) (X : LX p l s m c b L xs D cA cR cL cF) {k0 s0 : Nat} (hk0 : k0 + 1 ≤ 601024) (hs0 : s0 + 6 ≤ 7293034) {cn : Nat} (hcn : cn < 512) {x5 : Int32} {v : V10} {w : V11} {a0 : A10} {a1 : A11} {q3 q4 : Nat} {f3 : Nat → Int64} {f4 : Nat → UInt64} {H : Heap} {locs : List Loc} {ls : Array Slot} {Q : State → Prop} (hR : RR cn v w) (hw : ww (fun q : Nat => s.heap.size ≤ q) s.heap D [w10 cA cR a0 v, w11 cA a1 w, [(q3, .inl (cL, 1, .inr (.inl f3)))], [(q4, .inl (cF, 1, .inr (.inr (.inr (.inl f4)))))]] H locs) (hl : lv_has ls 9 [(0, .ref b), (1, .ref a0.1), (2, .ref a1.1), (3, .ref q3), (4, .ref q4), (5, .int x5)])
    (kk : ∀ (v : V10) (w : V11) (f3 : Nat → Int64) (f4 : Nat → UInt64) (H : Heap) (locs : List Loc) (ls : Array Slot), RR (cn + 1) v w → ww (fun q : Nat => s.heap.size ≤ q) s.heap D [w10 cA cR a0 v, w11 cA a1 w, [(q3, .inl (cL, 1, .inr (.inl f3)))], [(q4, .inl (cF, 1, .inr (.inr (.inr (.inl f4)))))]] H locs → lv_has ls 9 [(0, .ref b), (1, .ref a0.1), (2, .ref a1.1), (3, .ref q3), (4, .ref q4), (5, .int x5)] → W p l e room_1 s m #[Value.ref b] below meth c H locs (k0 + 1) (s0 + 6) Q (F0 m 1547 ls [])) : W p l e room_1 s m #[Value.ref b] below meth c H locs k0 s0 Q (F0 m 1399 ls []) := by
  obtain ⟨hx, hb, hml, hown, hts, hX, hbl, hz, hzl, hzx, hlt⟩ := X
  have hA : ∀ q : Nat, s.heap.size ≤ q → (fun q : Nat => s.heap.size ≤ q) q := fun _ h => h
  have hbA : ¬ (fun q : Nat => s.heap.size ≤ q) b := Nat.not_le.mpr hbl
  obtain ⟨u, z, hu, hz1, hret, hR⟩ := hpu cn v w hcn hR
  refine lv_aload_n hx hb dL_law_1399 rfl (lv_at hl 1 rfl) ?_
  refine k_callV (ci := 10) (C := RX10) (T := TX10) (N := 7) (nA := 0) (As := []) (cs := [w10 cA cR a0 v]) (rs := [w11 cA a1 w, [(q3, .inl (cL, 1, .inr (.inl f3)))], [(q4, .inl (cF, 1, .inr (.inr (.inr (.inl f4)))))]]) (cs1 := [w10 cA cR a0 u.2]) (bs1 := [w10 cA cR a0 u.2, w11 cA a1 w, [(q3, .inl (cL, 1, .inr (.inl f3)))], [(q4, .inl (cF, 1, .inr (.inr (.inr (.inl f4)))))]]) (rest := []) (st1 := [.int u.1]) ⟨hx, hb, hml, hown, hts⟩ hz hw hA (mX10_chains l D cA cR N a0 v u hu) gL_law_X10_chains rfl rfl rfl (by decide +kernel) rfl ⟨Nat.le_of_ble_eq_true rfl, Nat.le_of_ble_eq_true rfl⟩ rfl rfl hl.1 rfl (Nat.le_of_ble_eq_true rfl) dL_law_1400 ⟨(by show _ ≤ 601024; omega), (by show _ ≤ 7293034; omega)⟩ [0] [1, 2, 3] [3, 0, 1, 2] rfl rfl rfl rfl rfl rfl (fun H locs hw => ?_)
  refine lv_aload_n hx hb dL_law_1403 rfl (lv_at hl 2 rfl) ?_
  refine k_callV (ci := 11) (C := RX11) (T := TX11) (N := 14) (nA := 0) (As := []) (cs := [w11 cA a1 w]) (rs := [w10 cA cR a0 u.2, [(q3, .inl (cL, 1, .inr (.inl f3)))], [(q4, .inl (cF, 1, .inr (.inr (.inr (.inl f4)))))]]) (cs1 := [w11 cA a1 z.2]) (bs1 := [w10 cA cR a0 u.2, w11 cA a1 z.2, [(q3, .inl (cL, 1, .inr (.inl f3)))], [(q4, .inl (cF, 1, .inr (.inr (.inr (.inl f4)))))]]) (rest := [.int u.1]) (st1 := [.int z.1, .int u.1]) ⟨hx, hb, hml, hown, hts⟩ hz hw hA (mX11_chains l D cA cR N a1 w z hz1) gL_law_X11_chains rfl rfl rfl (by decide +kernel) rfl ⟨Nat.le_of_ble_eq_true rfl, Nat.le_of_ble_eq_true rfl⟩ rfl rfl hl.1 rfl (Nat.le_of_ble_eq_true rfl) dL_law_1404 ⟨(by show _ ≤ 601024; omega), (by show _ ≤ 7293034; omega)⟩ [1] [0, 2, 3] [0, 3, 1, 2] rfl rfl rfl rfl rfl rfl (fun H locs hw => ?_)
  refine lv_icmp_eq (tgt := 1547) hx hb dL_law_1407 (by decide) (fun _ => ?_) (fun cc => absurd hret cc)
  refine W.widen (k := k0 + 1) (n := s0 + 6) (by omega) (by omega) ?_
  exact kk u.2 z.2 f3 f4 _ _ _ hR hw hl
set_option maxHeartbeats 4000000 in
set_option maxRecDepth 100000 in
theorem lk_24 {p : Program} {l : Launch} {e : Env} {s : State} {m : MethodId} {below : List Frame} {meth : Method} {c : Code} {D : va_G} {cA cR cL cF : ClassId} {b L : Nat} {xs : Nat → Int32} {RR : Nat → V10 → V11 → Prop} {N : Nat} (hpu : PU_hopInterval RR N) (X : LX p l s m c b L xs D cA cR cL cF) {k0 s0 : Nat} (hk0 : k0 + 1 ≤ 601024) (hs0 : s0 + 6 ≤ 7293034) {cn : Nat} (hcn : cn < 512) {x5 : Int32} {p1 : Int32} (h1 : vp_in (x5 + 1) L) (e1 : xs (x5 + 1).toNatClampNeg = p1) {v : V10} {w : V11} {a0 : A10} {a1 : A11} {q3 q4 : Nat} {f3 : Nat → Int64} {f4 : Nat → UInt64} {H : Heap} {locs : List Loc} {ls : Array Slot} {Q : State → Prop} (hR : RR cn v w) (hw : ww (fun q : Nat => s.heap.size ≤ q) s.heap D [w10 cA cR a0 v, w11 cA a1 w, [(q3, .inl (cL, 1, .inr (.inl f3)))], [(q4, .inl (cF, 1, .inr (.inr (.inr (.inl f4)))))]] H locs) (hl : lv_has ls 9 [(0, .ref b), (1, .ref a0.1), (2, .ref a1.1), (3, .ref q3), (4, .ref q4), (5, .int x5)])
    (kk : ∀ (v : V10) (w : V11) (f3 : Nat → Int64) (f4 : Nat → UInt64) (H : Heap) (locs : List Loc) (ls : Array Slot), RR (cn + 1) v w → ww (fun q : Nat => s.heap.size ≤ q) s.heap D [w10 cA cR a0 v, w11 cA a1 w, [(q3, .inl (cL, 1, .inr (.inl f3)))], [(q4, .inl (cF, 1, .inr (.inr (.inr (.inl f4)))))]] H locs → lv_has ls 9 [(0, .ref b), (1, .ref a0.1), (2, .ref a1.1), (3, .ref q3), (4, .ref q4), (5, .int x5)] → W p l e room_1 s m #[Value.ref b] below meth c H locs (k0 + 1) (s0 + 6) Q (F0 m 1547 ls [])) : W p l e room_1 s m #[Value.ref b] below meth c H locs k0 s0 Q (F0 m 1412 ls []) := by
  obtain ⟨hx, hb, hml, hown, hts, hX, hbl, hz, hzl, hzx, hlt⟩ := X
  have hA : ∀ q : Nat, s.heap.size ≤ q → (fun q : Nat => s.heap.size ≤ q) q := fun _ h => h
  have hbA : ¬ (fun q : Nat => s.heap.size ≤ q) b := Nat.not_le.mpr hbl
  rcases hpu cn v w p1 hcn hR with ⟨u, z, hu, hz1, hth, hret, hR⟩ | ⟨z, hu, hz1, hth, hR⟩
  · skip
    refine lv_aload_n hx hb dL_law_1412 rfl (lv_at hl 1 rfl) ?_
    refine lv_aload_n hx hb dL_law_1413 rfl (lv_at hl 0 rfl) ?_
    refine lv_iload hx hb dL_law_1414 (lv_at hl 5 rfl) ?_
    refine lv_iconst (v := 1) hx hb dL_law_1416 (by decide) ?_
    refine lv_iadd hx hb dL_law_1417 ?_
    refine va_sld hx hb hX hbl hbA hw.2.2 h1 dL_law_1418 ?_
    refine lv_topi (fun y ey => ?_)
    obtain rfl : p1 = y := (ey.trans e1).symm
    refine lv_aload hx hb dL_law_1419 (lv_at hl 4 rfl) ?_
    refine k_call (cs := [w10 cA cR a0 v, [(q4, .inl (cF, 1, .inr (.inr (.inr (.inl f4)))))]]) (rs := [w11 cA a1 w, [(q3, .inl (cL, 1, .inr (.inl f3)))]]) (cs1 := [w10 cA cR a0 u.2, [(q4, .inl (cF, 1, .inr (.inr (.inr (.inl (vf_upd f4 (0 : Int32).toNatClampNeg u.1))))))]]) (bs1 := [w10 cA cR a0 u.2, w11 cA a1 w, [(q3, .inl (cL, 1, .inr (.inl f3)))], [(q4, .inl (cF, 1, .inr (.inr (.inr (.inl (vf_upd f4 (0 : Int32).toNatClampNeg u.1))))))]]) (rest := []) (st1 := [.int (0 : Int32)]) hw hA [0, 3] [1, 2] [2, 0, 1, 3] rfl rfl rfl rfl rfl (k_runL (nA := 3) (As := [.ref a0.1, .int p1, .ref q4]) (cs := [w10 cA cR a0 v, [(q4, .inl (cF, 1, .inr (.inr (.inr (.inl f4)))))]]) (rs := [w11 cA a1 w, [(q3, .inl (cL, 1, .inr (.inl f3)))]]) (rest := []) ⟨hx, hb, hml, hown, hts⟩ hz hzl hzx hw hA (mL_hopInterval l D cA cR cL cF N a0 v p1 q4 f4 u hu) gL_law_L_hopInterval rfl rfl rfl (by decide +kernel) rfl ⟨Nat.le_of_ble_eq_true rfl, Nat.le_of_ble_eq_true rfl⟩ hl.1 rfl (Nat.le_of_ble_eq_true rfl) dL_law_1421 ⟨(by show _ ≤ 601024; omega), (by show _ ≤ 7293034; omega)⟩ [0, 3] [1, 2] rfl rfl rfl) rfl (fun H locs hw => ?_)
    refine lv_istore (lv' := [(6, .int (0 : Int32)), (0, .ref b), (1, .ref a0.1), (2, .ref a1.1), (3, .ref q3), (4, .ref q4), (5, .int x5)]) hx hb dL_law_1424 hl (by decide) rfl (fun ls hl => ?_)
    refine lv_aload_n hx hb dL_law_1426 rfl (lv_at hl 3 rfl) ?_
    refine lv_aload_n hx hb dL_law_1427 rfl (lv_at hl 1 rfl) ?_
    refine lv_iload hx hb dL_law_1428 (lv_at hl 6 rfl) ?_
    refine lv_iconst (v := 1) hx hb dL_law_1430 (by decide) ?_
    refine lv_iadd hx hb dL_law_1431 ?_
    refine va_sld hx hb hX hbl hbA hw.2.2 h1 dL_law_1432 ?_
    refine lv_topi (fun y ey => ?_)
    obtain rfl : p1 = y := (ey.trans e1).symm
    refine k_callV (ci := 11) (C := RX11) (T := TX11) (N := 14) (nA := 1) (As := [.int p1]) (cs := [w11 cA a1 w]) (rs := [w10 cA cR a0 u.2, [(q3, .inl (cL, 1, .inr (.inl f3)))], [(q4, .inl (cF, 1, .inr (.inr (.inr (.inl (vf_upd f4 (0 : Int32).toNatClampNeg u.1))))))]]) (cs1 := [w11 cA a1 z.2]) (bs1 := [w10 cA cR a0 u.2, w11 cA a1 z.2, [(q3, .inl (cL, 1, .inr (.inl f3)))], [(q4, .inl (cF, 1, .inr (.inr (.inr (.inl (vf_upd f4 (0 : Int32).toNatClampNeg u.1))))))]]) (rest := []) (st1 := [.double z.1]) ⟨hx, hb, hml, hown, hts⟩ hz hw hA (mX11_hopInterval l D cA cR N a1 w p1 z hz1) gL_law_X11_hopInterval rfl rfl rfl (by decide +kernel) rfl ⟨Nat.le_of_ble_eq_true rfl, Nat.le_of_ble_eq_true rfl⟩ rfl rfl hl.1 rfl (Nat.le_of_ble_eq_true rfl) dL_law_1433 ⟨(by show _ ≤ 601024; omega), (by show _ ≤ 7293034; omega)⟩ [1] [0, 2, 3] [0, 3, 1, 2] rfl rfl rfl rfl rfl rfl (fun H locs hw => ?_)
    refine lv_dstore (lv' := [(7, .double z.1), (6, .int (0 : Int32)), (0, .ref b), (1, .ref a0.1), (2, .ref a1.1), (3, .ref q3), (4, .ref q4), (5, .int x5)]) hx hb dL_law_1436 hl (by decide) rfl (fun ls hl => ?_)
    refine lv_aload_n hx hb dL_law_1438 rfl (lv_at hl 4 rfl) ?_
    refine k_callV (ci := 11) (C := RX11) (T := TX11) (N := 14) (nA := 0) (As := []) (cs := [w11 cA a1 z.2]) (rs := [w10 cA cR a0 u.2, [(q3, .inl (cL, 1, .inr (.inl f3)))], [(q4, .inl (cF, 1, .inr (.inr (.inr (.inl (vf_upd f4 (0 : Int32).toNatClampNeg u.1))))))]]) (cs1 := [w11 cA a1 z.2]) (bs1 := [w10 cA cR a0 u.2, w11 cA a1 z.2, [(q3, .inl (cL, 1, .inr (.inl f3)))], [(q4, .inl (cF, 1, .inr (.inr (.inr (.inl (vf_upd f4 (0 : Int32).toNatClampNeg u.1))))))]]) (rest := []) (st1 := [.int z.2.2.2.2.1]) ⟨hx, hb, hml, hown, hts⟩ hz hw hA (mX11_thrown l D cA cR a1 z.2 (z.2.2.2.2.1) rfl) gL_law_X11_thrown rfl rfl rfl (by decide +kernel) rfl ⟨Nat.le_of_ble_eq_true rfl, Nat.le_of_ble_eq_true rfl⟩ rfl rfl hl.1 rfl (Nat.le_of_ble_eq_true rfl) dL_law_1439 ⟨(by show _ ≤ 601024; omega), (by show _ ≤ 7293034; omega)⟩ [1] [0, 2, 3] [0, 3, 1, 2] rfl rfl rfl rfl rfl rfl (fun H locs hw => ?_)
    refine lv_iload hx hb dL_law_1442 (lv_at hl 1 rfl) ?_
    refine lv_icmp_eq (tgt := 1449) hx hb dL_law_1444 (by decide) (fun _ => ?_) (fun cc => absurd hth cc)
    refine lv_iload hx hb dL_law_1449 (lv_at hl 1 rfl) ?_
    refine lv_if_ne (tgt := 1486) hx hb dL_law_1451 (by decide) (fun cc => absurd rfl cc) (fun _ => ?_)
    refine lv_aload hx hb dL_law_1454 (lv_at hl 6 rfl) ?_
    refine lv_iconst (v := 0) hx hb dL_law_1456 (by decide) ?_
    refine k_dald hx hb hzl hw 3 rfl (by unfold vp_in; decide) dL_law_1457 ?_
    have hv9 : (vf_upd f4 (0 : Int32).toNatClampNeg u.1) (0 : Int32).toNatClampNeg = z.1 := by rw [← hret]; simp [vf_upd]
    rw [hv9]
    refine lv_dload hx hb dL_law_1458 (lv_at hl 0 rfl) ?_
    refine lv_dcmp hx hb dL_law_1460 ?_
    have kk9 : W p l e room_1 s m #[Value.ref b] below meth c H locs k0 s0 Q (F0 m 1486 ls []) := by
      refine lv_goto (tgt := 1547) hx hb dL_law_1486 (by decide) ?_
      refine W.widen (k := k0 + 1) (n := s0 + 6) (by omega) (by omega) ?_
      exact kk u.2 z.2 f3 (vf_upd f4 (0 : Int32).toNatClampNeg u.1) _ _ _ hR hw (lv_sub hl [2, 3, 4, 5, 6, 7] rfl)
    refine lv_if_eq (tgt := 1486) hx hb dL_law_1461 (by decide) (fun _ => kk9) (fun c9 => ?_)
    refine lv_aload hx hb dL_law_1464 (lv_at hl 6 rfl) ?_
    refine lv_iconst (v := 0) hx hb dL_law_1466 (by decide) ?_
    refine k_dald hx hb hzl hw 3 rfl (by unfold vp_in; decide) dL_law_1467 ?_
    rw [hv9]
    refine lv_aload hx hb dL_law_1468 (lv_at hl 6 rfl) ?_
    refine lv_iconst (v := 0) hx hb dL_law_1470 (by decide) ?_
    refine k_dald hx hb hzl hw 3 rfl (by unfold vp_in; decide) dL_law_1471 ?_
    rw [hv9]
    refine lv_dcmp hx hb dL_law_1472 ?_
    refine lv_if_eq (tgt := 1484) hx hb dL_law_1473 (by decide) (fun c8 => absurd c8 c9) (fun _ => ?_)
    refine lv_dload hx hb dL_law_1476 (lv_at hl 0 rfl) ?_
    refine lv_dload hx hb dL_law_1478 (lv_at hl 0 rfl) ?_
    refine lv_dcmp hx hb dL_law_1480 ?_
    exact lv_if_ne (tgt := 1486) hx hb dL_law_1481 (by decide) (fun _ => kk9) (fun c8 => absurd c8 c9)
  · skip
    refine lv_aload_n hx hb dL_law_1412 rfl (lv_at hl 1 rfl) ?_
    refine lv_aload_n hx hb dL_law_1413 rfl (lv_at hl 0 rfl) ?_
    refine lv_iload hx hb dL_law_1414 (lv_at hl 5 rfl) ?_
    refine lv_iconst (v := 1) hx hb dL_law_1416 (by decide) ?_
    refine lv_iadd hx hb dL_law_1417 ?_
    refine va_sld hx hb hX hbl hbA hw.2.2 h1 dL_law_1418 ?_
    refine lv_topi (fun y ey => ?_)
    obtain rfl : p1 = y := (ey.trans e1).symm
    refine lv_aload hx hb dL_law_1419 (lv_at hl 4 rfl) ?_
    refine k_call (cs := [w10 cA cR a0 v, [(q4, .inl (cF, 1, .inr (.inr (.inr (.inl f4)))))]]) (rs := [w11 cA a1 w, [(q3, .inl (cL, 1, .inr (.inl f3)))]]) (cs1 := [w10 cA cR a0 v, [(q4, .inl (cF, 1, .inr (.inr (.inr (.inl f4)))))]]) (bs1 := [w10 cA cR a0 v, w11 cA a1 w, [(q3, .inl (cL, 1, .inr (.inl f3)))], [(q4, .inl (cF, 1, .inr (.inr (.inr (.inl f4)))))]]) (rest := []) (st1 := [.int (1 : Int32)]) hw hA [0, 3] [1, 2] [2, 0, 1, 3] rfl rfl rfl rfl rfl (k_runL (nA := 3) (As := [.ref a0.1, .int p1, .ref q4]) (cs := [w10 cA cR a0 v, [(q4, .inl (cF, 1, .inr (.inr (.inr (.inl f4)))))]]) (rs := [w11 cA a1 w, [(q3, .inl (cL, 1, .inr (.inl f3)))]]) (rest := []) ⟨hx, hb, hml, hown, hts⟩ hz hzl hzx hw hA (t0L_hopInterval l hlt D cA cR cL cF N a0 v p1 q4 f4 hu) gL_law_L_hopInterval rfl rfl rfl (by decide +kernel) rfl ⟨Nat.le_of_ble_eq_true rfl, Nat.le_of_ble_eq_true rfl⟩ hl.1 rfl (Nat.le_of_ble_eq_true rfl) dL_law_1421 ⟨(by show _ ≤ 601024; omega), (by show _ ≤ 7293034; omega)⟩ [0, 3] [1, 2] rfl rfl rfl) rfl (fun H locs hw => ?_)
    refine lv_istore (lv' := [(6, .int (1 : Int32)), (0, .ref b), (1, .ref a0.1), (2, .ref a1.1), (3, .ref q3), (4, .ref q4), (5, .int x5)]) hx hb dL_law_1424 hl (by decide) rfl (fun ls hl => ?_)
    refine lv_aload_n hx hb dL_law_1426 rfl (lv_at hl 3 rfl) ?_
    refine lv_aload_n hx hb dL_law_1427 rfl (lv_at hl 1 rfl) ?_
    refine lv_iload hx hb dL_law_1428 (lv_at hl 6 rfl) ?_
    refine lv_iconst (v := 1) hx hb dL_law_1430 (by decide) ?_
    refine lv_iadd hx hb dL_law_1431 ?_
    refine va_sld hx hb hX hbl hbA hw.2.2 h1 dL_law_1432 ?_
    refine lv_topi (fun y ey => ?_)
    obtain rfl : p1 = y := (ey.trans e1).symm
    refine k_callV (ci := 11) (C := RX11) (T := TX11) (N := 14) (nA := 1) (As := [.int p1]) (cs := [w11 cA a1 w]) (rs := [w10 cA cR a0 v, [(q3, .inl (cL, 1, .inr (.inl f3)))], [(q4, .inl (cF, 1, .inr (.inr (.inr (.inl f4)))))]]) (cs1 := [w11 cA a1 z.2]) (bs1 := [w10 cA cR a0 v, w11 cA a1 z.2, [(q3, .inl (cL, 1, .inr (.inl f3)))], [(q4, .inl (cF, 1, .inr (.inr (.inr (.inl f4)))))]]) (rest := []) (st1 := [.double z.1]) ⟨hx, hb, hml, hown, hts⟩ hz hw hA (mX11_hopInterval l D cA cR N a1 w p1 z hz1) gL_law_X11_hopInterval rfl rfl rfl (by decide +kernel) rfl ⟨Nat.le_of_ble_eq_true rfl, Nat.le_of_ble_eq_true rfl⟩ rfl rfl hl.1 rfl (Nat.le_of_ble_eq_true rfl) dL_law_1433 ⟨(by show _ ≤ 601024; omega), (by show _ ≤ 7293034; omega)⟩ [1] [0, 2, 3] [0, 3, 1, 2] rfl rfl rfl rfl rfl rfl (fun H locs hw => ?_)
    refine lv_dstore (lv' := [(7, .double z.1), (6, .int (1 : Int32)), (0, .ref b), (1, .ref a0.1), (2, .ref a1.1), (3, .ref q3), (4, .ref q4), (5, .int x5)]) hx hb dL_law_1436 hl (by decide) rfl (fun ls hl => ?_)
    refine lv_aload_n hx hb dL_law_1438 rfl (lv_at hl 4 rfl) ?_
    refine k_callV (ci := 11) (C := RX11) (T := TX11) (N := 14) (nA := 0) (As := []) (cs := [w11 cA a1 z.2]) (rs := [w10 cA cR a0 v, [(q3, .inl (cL, 1, .inr (.inl f3)))], [(q4, .inl (cF, 1, .inr (.inr (.inr (.inl f4)))))]]) (cs1 := [w11 cA a1 z.2]) (bs1 := [w10 cA cR a0 v, w11 cA a1 z.2, [(q3, .inl (cL, 1, .inr (.inl f3)))], [(q4, .inl (cF, 1, .inr (.inr (.inr (.inl f4)))))]]) (rest := []) (st1 := [.int z.2.2.2.2.1]) ⟨hx, hb, hml, hown, hts⟩ hz hw hA (mX11_thrown l D cA cR a1 z.2 (z.2.2.2.2.1) rfl) gL_law_X11_thrown rfl rfl rfl (by decide +kernel) rfl ⟨Nat.le_of_ble_eq_true rfl, Nat.le_of_ble_eq_true rfl⟩ rfl rfl hl.1 rfl (Nat.le_of_ble_eq_true rfl) dL_law_1439 ⟨(by show _ ≤ 601024; omega), (by show _ ≤ 7293034; omega)⟩ [1] [0, 2, 3] [0, 3, 1, 2] rfl rfl rfl rfl rfl rfl (fun H locs hw => ?_)
    refine lv_iload hx hb dL_law_1442 (lv_at hl 1 rfl) ?_
    refine lv_icmp_eq (tgt := 1449) hx hb dL_law_1444 (by decide) (fun _ => ?_) (fun cc => absurd hth cc)
    refine lv_iload hx hb dL_law_1449 (lv_at hl 1 rfl) ?_
    refine lv_if_ne (tgt := 1486) hx hb dL_law_1451 (by decide) (fun _ => ?_) (fun cc => absurd cc (by decide))
    refine lv_goto (tgt := 1547) hx hb dL_law_1486 (by decide) ?_
    refine W.widen (k := k0 + 1) (n := s0 + 6) (by omega) (by omega) ?_
    exact kk v z.2 f3 f4 _ _ _ hR hw (lv_sub hl [2, 3, 4, 5, 6, 7] rfl)
set_option maxHeartbeats 4000000 in
set_option maxRecDepth 100000 in
theorem lk_25 {p : Program} {l : Launch} {e : Env} {s : State} {m : MethodId} {below : List Frame} {meth : Method} {c : Code} {D : va_G} {cA cR cL cF : ClassId} {b L : Nat} {xs : Nat → Int32} {RR : Nat → V10 → V11 → Prop} {N : Nat} (hpu : PU_undo RR N) (X : LX p l s m c b L xs D cA cR cL cF) {k0 s0 : Nat} (hk0 : k0 + 1 ≤ 601024) (hs0 : s0 + 6 ≤ 7293034) {cn : Nat} (hcn : cn < 512) {x5 : Int32} {v : V10} {w : V11} {a0 : A10} {a1 : A11} {q3 q4 : Nat} {f3 : Nat → Int64} {f4 : Nat → UInt64} {H : Heap} {locs : List Loc} {ls : Array Slot} {Q : State → Prop} (hR : RR cn v w) (hw : ww (fun q : Nat => s.heap.size ≤ q) s.heap D [w10 cA cR a0 v, w11 cA a1 w, [(q3, .inl (cL, 1, .inr (.inl f3)))], [(q4, .inl (cF, 1, .inr (.inr (.inr (.inl f4)))))]] H locs) (hl : lv_has ls 9 [(0, .ref b), (1, .ref a0.1), (2, .ref a1.1), (3, .ref q3), (4, .ref q4), (5, .int x5)])
    (kk : ∀ (v : V10) (w : V11) (f3 : Nat → Int64) (f4 : Nat → UInt64) (H : Heap) (locs : List Loc) (ls : Array Slot), RR (cn + 1) v w → ww (fun q : Nat => s.heap.size ≤ q) s.heap D [w10 cA cR a0 v, w11 cA a1 w, [(q3, .inl (cL, 1, .inr (.inl f3)))], [(q4, .inl (cF, 1, .inr (.inr (.inr (.inl f4)))))]] H locs → lv_has ls 9 [(0, .ref b), (1, .ref a0.1), (2, .ref a1.1), (3, .ref q3), (4, .ref q4), (5, .int x5)] → W p l e room_1 s m #[Value.ref b] below meth c H locs (k0 + 1) (s0 + 6) Q (F0 m 1547 ls [])) : W p l e room_1 s m #[Value.ref b] below meth c H locs k0 s0 Q (F0 m 1489 ls []) := by
  obtain ⟨hx, hb, hml, hown, hts, hX, hbl, hz, hzl, hzx, hlt⟩ := X
  have hA : ∀ q : Nat, s.heap.size ≤ q → (fun q : Nat => s.heap.size ≤ q) q := fun _ h => h
  have hbA : ¬ (fun q : Nat => s.heap.size ≤ q) b := Nat.not_le.mpr hbl
  rcases hpu cn v w  hcn hR with ⟨u, z, hu, hz1, hth, hret, hR⟩ | ⟨z, hu, hz1, hth, hR⟩
  · skip
    refine lv_aload_n hx hb dL_law_1489 rfl (lv_at hl 1 rfl) ?_
    refine lv_aload_n hx hb dL_law_1490 rfl (lv_at hl 3 rfl) ?_
    refine k_call (cs := [w10 cA cR a0 v, [(q3, .inl (cL, 1, .inr (.inl f3)))]]) (rs := [w11 cA a1 w, [(q4, .inl (cF, 1, .inr (.inr (.inr (.inl f4)))))]]) (cs1 := [w10 cA cR a0 u.2, [(q3, .inl (cL, 1, .inr (.inl (vp_updL f3 (0 : Int32).toNatClampNeg u.1.toInt64))))]]) (bs1 := [w10 cA cR a0 u.2, w11 cA a1 w, [(q3, .inl (cL, 1, .inr (.inl (vp_updL f3 (0 : Int32).toNatClampNeg u.1.toInt64))))], [(q4, .inl (cF, 1, .inr (.inr (.inr (.inl f4)))))]]) (rest := []) (st1 := [.int (0 : Int32)]) hw hA [0, 2] [1, 3] [2, 0, 3, 1] rfl rfl rfl rfl rfl (k_runL (nA := 2) (As := [.ref a0.1, .ref q3]) (cs := [w10 cA cR a0 v, [(q3, .inl (cL, 1, .inr (.inl f3)))]]) (rs := [w11 cA a1 w, [(q4, .inl (cF, 1, .inr (.inr (.inr (.inl f4)))))]]) (rest := []) ⟨hx, hb, hml, hown, hts⟩ hz hzl hzx hw hA (mL_undo l D cA cR cL cF  a0 v  q3 f3 u hu) gL_law_L_undo rfl rfl rfl (by decide +kernel) rfl ⟨Nat.le_of_ble_eq_true rfl, Nat.le_of_ble_eq_true rfl⟩ hl.1 rfl (Nat.le_of_ble_eq_true rfl) dL_law_1491 ⟨(by show _ ≤ 601024; omega), (by show _ ≤ 7293034; omega)⟩ [0, 2] [1, 3] rfl rfl rfl) rfl (fun H locs hw => ?_)
    refine lv_istore (lv' := [(6, .int (0 : Int32)), (0, .ref b), (1, .ref a0.1), (2, .ref a1.1), (3, .ref q3), (4, .ref q4), (5, .int x5)]) hx hb dL_law_1494 hl (by decide) rfl (fun ls hl => ?_)
    refine lv_aload_n hx hb dL_law_1496 rfl (lv_at hl 3 rfl) ?_
    refine k_callV (ci := 11) (C := RX11) (T := TX11) (N := 14) (nA := 0) (As := []) (cs := [w11 cA a1 w]) (rs := [w10 cA cR a0 u.2, [(q3, .inl (cL, 1, .inr (.inl (vp_updL f3 (0 : Int32).toNatClampNeg u.1.toInt64))))], [(q4, .inl (cF, 1, .inr (.inr (.inr (.inl f4)))))]]) (cs1 := [w11 cA a1 z.2]) (bs1 := [w10 cA cR a0 u.2, w11 cA a1 z.2, [(q3, .inl (cL, 1, .inr (.inl (vp_updL f3 (0 : Int32).toNatClampNeg u.1.toInt64))))], [(q4, .inl (cF, 1, .inr (.inr (.inr (.inl f4)))))]]) (rest := []) (st1 := [.int z.1]) ⟨hx, hb, hml, hown, hts⟩ hz hw hA (mX11_undo l D cA cR N a1 w z hz1) gL_law_X11_undo rfl rfl rfl (by decide +kernel) rfl ⟨Nat.le_of_ble_eq_true rfl, Nat.le_of_ble_eq_true rfl⟩ rfl rfl hl.1 rfl (Nat.le_of_ble_eq_true rfl) dL_law_1497 ⟨(by show _ ≤ 601024; omega), (by show _ ≤ 7293034; omega)⟩ [1] [0, 2, 3] [0, 3, 1, 2] rfl rfl rfl rfl rfl rfl (fun H locs hw => ?_)
    refine lv_istore (lv' := [(7, .int z.1), (6, .int (0 : Int32)), (0, .ref b), (1, .ref a0.1), (2, .ref a1.1), (3, .ref q3), (4, .ref q4), (5, .int x5)]) hx hb dL_law_1500 hl (by decide) rfl (fun ls hl => ?_)
    refine lv_aload_n hx hb dL_law_1502 rfl (lv_at hl 4 rfl) ?_
    refine k_callV (ci := 11) (C := RX11) (T := TX11) (N := 14) (nA := 0) (As := []) (cs := [w11 cA a1 z.2]) (rs := [w10 cA cR a0 u.2, [(q3, .inl (cL, 1, .inr (.inl (vp_updL f3 (0 : Int32).toNatClampNeg u.1.toInt64))))], [(q4, .inl (cF, 1, .inr (.inr (.inr (.inl f4)))))]]) (cs1 := [w11 cA a1 z.2]) (bs1 := [w10 cA cR a0 u.2, w11 cA a1 z.2, [(q3, .inl (cL, 1, .inr (.inl (vp_updL f3 (0 : Int32).toNatClampNeg u.1.toInt64))))], [(q4, .inl (cF, 1, .inr (.inr (.inr (.inl f4)))))]]) (rest := []) (st1 := [.int z.2.2.2.2.1]) ⟨hx, hb, hml, hown, hts⟩ hz hw hA (mX11_thrown l D cA cR a1 z.2 (z.2.2.2.2.1) rfl) gL_law_X11_thrown rfl rfl rfl (by decide +kernel) rfl ⟨Nat.le_of_ble_eq_true rfl, Nat.le_of_ble_eq_true rfl⟩ rfl rfl hl.1 rfl (Nat.le_of_ble_eq_true rfl) dL_law_1503 ⟨(by show _ ≤ 601024; omega), (by show _ ≤ 7293034; omega)⟩ [1] [0, 2, 3] [0, 3, 1, 2] rfl rfl rfl rfl rfl rfl (fun H locs hw => ?_)
    refine lv_iload hx hb dL_law_1506 (lv_at hl 1 rfl) ?_
    refine lv_icmp_eq (tgt := 1513) hx hb dL_law_1508 (by decide) (fun _ => ?_) (fun cc => absurd hth cc)
    refine lv_iload hx hb dL_law_1513 (lv_at hl 1 rfl) ?_
    refine lv_if_ne (tgt := 1530) hx hb dL_law_1515 (by decide) (fun cc => absurd rfl cc) (fun _ => ?_)
    refine lv_aload_n hx hb dL_law_1518 rfl (lv_at hl 5 rfl) ?_
    refine lv_iconst (v := 0) hx hb dL_law_1519 (by decide) ?_
    refine k_lald hx hb hzl hw 2 rfl (by unfold vp_in; decide) dL_law_1520 ?_
    refine lv_iload hx hb dL_law_1521 (lv_at hl 0 rfl) ?_
    refine lv_i2l hx hb dL_law_1523 rfl ?_
    refine W.lcmp hx hb dL_law_1524 ?_
    refine lv_if_eq (tgt := 1530) hx hb dL_law_1525 (by decide) (fun _ => ?_) (fun cc => absurd (lcmp_same (by rw [← hret]; exact pk_uLs)) cc)
    refine lv_goto (tgt := 1547) hx hb dL_law_1530 (by decide) ?_
    refine W.widen (k := k0 + 1) (n := s0 + 6) (by omega) (by omega) ?_
    exact kk u.2 z.2 (vp_updL f3 (0 : Int32).toNatClampNeg u.1.toInt64) f4 _ _ _ hR hw (lv_sub hl [2, 3, 4, 5, 6, 7] rfl)
  · skip
    refine lv_aload_n hx hb dL_law_1489 rfl (lv_at hl 1 rfl) ?_
    refine lv_aload_n hx hb dL_law_1490 rfl (lv_at hl 3 rfl) ?_
    refine k_call (cs := [w10 cA cR a0 v, [(q3, .inl (cL, 1, .inr (.inl f3)))]]) (rs := [w11 cA a1 w, [(q4, .inl (cF, 1, .inr (.inr (.inr (.inl f4)))))]]) (cs1 := [w10 cA cR a0 v, [(q3, .inl (cL, 1, .inr (.inl f3)))]]) (bs1 := [w10 cA cR a0 v, w11 cA a1 w, [(q3, .inl (cL, 1, .inr (.inl f3)))], [(q4, .inl (cF, 1, .inr (.inr (.inr (.inl f4)))))]]) (rest := []) (st1 := [.int (1 : Int32)]) hw hA [0, 2] [1, 3] [2, 0, 3, 1] rfl rfl rfl rfl rfl (k_runL (nA := 2) (As := [.ref a0.1, .ref q3]) (cs := [w10 cA cR a0 v, [(q3, .inl (cL, 1, .inr (.inl f3)))]]) (rs := [w11 cA a1 w, [(q4, .inl (cF, 1, .inr (.inr (.inr (.inl f4)))))]]) (rest := []) ⟨hx, hb, hml, hown, hts⟩ hz hzl hzx hw hA (t0L_undo l hlt D cA cR cL cF  a0 v  q3 f3 hu) gL_law_L_undo rfl rfl rfl (by decide +kernel) rfl ⟨Nat.le_of_ble_eq_true rfl, Nat.le_of_ble_eq_true rfl⟩ hl.1 rfl (Nat.le_of_ble_eq_true rfl) dL_law_1491 ⟨(by show _ ≤ 601024; omega), (by show _ ≤ 7293034; omega)⟩ [0, 2] [1, 3] rfl rfl rfl) rfl (fun H locs hw => ?_)
    refine lv_istore (lv' := [(6, .int (1 : Int32)), (0, .ref b), (1, .ref a0.1), (2, .ref a1.1), (3, .ref q3), (4, .ref q4), (5, .int x5)]) hx hb dL_law_1494 hl (by decide) rfl (fun ls hl => ?_)
    refine lv_aload_n hx hb dL_law_1496 rfl (lv_at hl 3 rfl) ?_
    refine k_callV (ci := 11) (C := RX11) (T := TX11) (N := 14) (nA := 0) (As := []) (cs := [w11 cA a1 w]) (rs := [w10 cA cR a0 v, [(q3, .inl (cL, 1, .inr (.inl f3)))], [(q4, .inl (cF, 1, .inr (.inr (.inr (.inl f4)))))]]) (cs1 := [w11 cA a1 z.2]) (bs1 := [w10 cA cR a0 v, w11 cA a1 z.2, [(q3, .inl (cL, 1, .inr (.inl f3)))], [(q4, .inl (cF, 1, .inr (.inr (.inr (.inl f4)))))]]) (rest := []) (st1 := [.int z.1]) ⟨hx, hb, hml, hown, hts⟩ hz hw hA (mX11_undo l D cA cR N a1 w z hz1) gL_law_X11_undo rfl rfl rfl (by decide +kernel) rfl ⟨Nat.le_of_ble_eq_true rfl, Nat.le_of_ble_eq_true rfl⟩ rfl rfl hl.1 rfl (Nat.le_of_ble_eq_true rfl) dL_law_1497 ⟨(by show _ ≤ 601024; omega), (by show _ ≤ 7293034; omega)⟩ [1] [0, 2, 3] [0, 3, 1, 2] rfl rfl rfl rfl rfl rfl (fun H locs hw => ?_)
    refine lv_istore (lv' := [(7, .int z.1), (6, .int (1 : Int32)), (0, .ref b), (1, .ref a0.1), (2, .ref a1.1), (3, .ref q3), (4, .ref q4), (5, .int x5)]) hx hb dL_law_1500 hl (by decide) rfl (fun ls hl => ?_)
    refine lv_aload_n hx hb dL_law_1502 rfl (lv_at hl 4 rfl) ?_
    refine k_callV (ci := 11) (C := RX11) (T := TX11) (N := 14) (nA := 0) (As := []) (cs := [w11 cA a1 z.2]) (rs := [w10 cA cR a0 v, [(q3, .inl (cL, 1, .inr (.inl f3)))], [(q4, .inl (cF, 1, .inr (.inr (.inr (.inl f4)))))]]) (cs1 := [w11 cA a1 z.2]) (bs1 := [w10 cA cR a0 v, w11 cA a1 z.2, [(q3, .inl (cL, 1, .inr (.inl f3)))], [(q4, .inl (cF, 1, .inr (.inr (.inr (.inl f4)))))]]) (rest := []) (st1 := [.int z.2.2.2.2.1]) ⟨hx, hb, hml, hown, hts⟩ hz hw hA (mX11_thrown l D cA cR a1 z.2 (z.2.2.2.2.1) rfl) gL_law_X11_thrown rfl rfl rfl (by decide +kernel) rfl ⟨Nat.le_of_ble_eq_true rfl, Nat.le_of_ble_eq_true rfl⟩ rfl rfl hl.1 rfl (Nat.le_of_ble_eq_true rfl) dL_law_1503 ⟨(by show _ ≤ 601024; omega), (by show _ ≤ 7293034; omega)⟩ [1] [0, 2, 3] [0, 3, 1, 2] rfl rfl rfl rfl rfl rfl (fun H locs hw => ?_)
    refine lv_iload hx hb dL_law_1506 (lv_at hl 1 rfl) ?_
    refine lv_icmp_eq (tgt := 1513) hx hb dL_law_1508 (by decide) (fun _ => ?_) (fun cc => absurd hth cc)
    refine lv_iload hx hb dL_law_1513 (lv_at hl 1 rfl) ?_
    refine lv_if_ne (tgt := 1530) hx hb dL_law_1515 (by decide) (fun _ => ?_) (fun cc => absurd cc (by decide))
    refine lv_goto (tgt := 1547) hx hb dL_law_1530 (by decide) ?_
    refine W.widen (k := k0 + 1) (n := s0 + 6) (by omega) (by omega) ?_
    exact kk v z.2 f3 f4 _ _ _ hR hw (lv_sub hl [2, 3, 4, 5, 6, 7] rfl)
set_option maxHeartbeats 4000000 in
set_option maxRecDepth 100000 in
theorem lk_26 {p : Program} {l : Launch} {e : Env} {s : State} {m : MethodId} {below : List Frame} {meth : Method} {c : Code} {D : va_G} {cA cR cL cF : ClassId} {b L : Nat} {xs : Nat → Int32} {RR : Nat → V10 → V11 → Prop} {N : Nat} (hpu : PU_digest RR N) (X : LX p l s m c b L xs D cA cR cL cF) {k0 s0 : Nat} (hk0 : k0 + 1 ≤ 601024) (hs0 : s0 + 6 ≤ 7293034) {cn : Nat} (hcn : cn < 512) {x5 : Int32} {v : V10} {w : V11} {a0 : A10} {a1 : A11} {q3 q4 : Nat} {f3 : Nat → Int64} {f4 : Nat → UInt64} {H : Heap} {locs : List Loc} {ls : Array Slot} {Q : State → Prop} (hR : RR cn v w) (hw : ww (fun q : Nat => s.heap.size ≤ q) s.heap D [w10 cA cR a0 v, w11 cA a1 w, [(q3, .inl (cL, 1, .inr (.inl f3)))], [(q4, .inl (cF, 1, .inr (.inr (.inr (.inl f4)))))]] H locs) (hl : lv_has ls 9 [(0, .ref b), (1, .ref a0.1), (2, .ref a1.1), (3, .ref q3), (4, .ref q4), (5, .int x5)])
    (kk : ∀ (v : V10) (w : V11) (f3 : Nat → Int64) (f4 : Nat → UInt64) (H : Heap) (locs : List Loc) (ls : Array Slot), RR (cn + 1) v w → ww (fun q : Nat => s.heap.size ≤ q) s.heap D [w10 cA cR a0 v, w11 cA a1 w, [(q3, .inl (cL, 1, .inr (.inl f3)))], [(q4, .inl (cF, 1, .inr (.inr (.inr (.inl f4)))))]] H locs → lv_has ls 9 [(0, .ref b), (1, .ref a0.1), (2, .ref a1.1), (3, .ref q3), (4, .ref q4), (5, .int x5)] → W p l e room_1 s m #[Value.ref b] below meth c H locs (k0 + 1) (s0 + 6) Q (F0 m 1547 ls [])) : W p l e room_1 s m #[Value.ref b] below meth c H locs k0 s0 Q (F0 m 1533 ls []) := by
  obtain ⟨hx, hb, hml, hown, hts, hX, hbl, hz, hzl, hzx, hlt⟩ := X
  have hA : ∀ q : Nat, s.heap.size ≤ q → (fun q : Nat => s.heap.size ≤ q) q := fun _ h => h
  have hbA : ¬ (fun q : Nat => s.heap.size ≤ q) b := Nat.not_le.mpr hbl
  obtain ⟨u, z, hu, hz1, hret, hR⟩ := hpu cn v w hcn hR
  refine lv_aload_n hx hb dL_law_1533 rfl (lv_at hl 1 rfl) ?_
  refine k_callV (ci := 10) (C := RX10) (T := TX10) (N := 7) (nA := 0) (As := []) (cs := [w10 cA cR a0 v]) (rs := [w11 cA a1 w, [(q3, .inl (cL, 1, .inr (.inl f3)))], [(q4, .inl (cF, 1, .inr (.inr (.inr (.inl f4)))))]]) (cs1 := [w10 cA cR a0 u.2]) (bs1 := [w10 cA cR a0 u.2, w11 cA a1 w, [(q3, .inl (cL, 1, .inr (.inl f3)))], [(q4, .inl (cF, 1, .inr (.inr (.inr (.inl f4)))))]]) (rest := []) (st1 := [.long u.1]) ⟨hx, hb, hml, hown, hts⟩ hz hw hA (mX10_digest l D cA cR N a0 v u hu) gL_law_X10_digest rfl rfl rfl (by decide +kernel) rfl ⟨Nat.le_of_ble_eq_true rfl, Nat.le_of_ble_eq_true rfl⟩ rfl rfl hl.1 rfl (Nat.le_of_ble_eq_true rfl) dL_law_1534 ⟨(by show _ ≤ 601024; omega), (by show _ ≤ 7293034; omega)⟩ [0] [1, 2, 3] [3, 0, 1, 2] rfl rfl rfl rfl rfl rfl (fun H locs hw => ?_)
  refine lv_aload_n hx hb dL_law_1537 rfl (lv_at hl 2 rfl) ?_
  refine k_callV (ci := 11) (C := RX11) (T := TX11) (N := 14) (nA := 0) (As := []) (cs := [w11 cA a1 w]) (rs := [w10 cA cR a0 u.2, [(q3, .inl (cL, 1, .inr (.inl f3)))], [(q4, .inl (cF, 1, .inr (.inr (.inr (.inl f4)))))]]) (cs1 := [w11 cA a1 z.2]) (bs1 := [w10 cA cR a0 u.2, w11 cA a1 z.2, [(q3, .inl (cL, 1, .inr (.inl f3)))], [(q4, .inl (cF, 1, .inr (.inr (.inr (.inl f4)))))]]) (rest := [.long u.1]) (st1 := [.long z.1, .long u.1]) ⟨hx, hb, hml, hown, hts⟩ hz hw hA (mX11_digest l D cA cR N a1 w z hz1) gL_law_X11_digest rfl rfl rfl (by decide +kernel) rfl ⟨Nat.le_of_ble_eq_true rfl, Nat.le_of_ble_eq_true rfl⟩ rfl rfl hl.1 rfl (Nat.le_of_ble_eq_true rfl) dL_law_1538 ⟨(by show _ ≤ 601024; omega), (by show _ ≤ 7293034; omega)⟩ [1] [0, 2, 3] [0, 3, 1, 2] rfl rfl rfl rfl rfl rfl (fun H locs hw => ?_)
  refine W.lcmp hx hb dL_law_1541 ?_
  refine lv_if_eq (tgt := 1547) hx hb dL_law_1542 (by decide) (fun _ => ?_) (fun cc => absurd (lcmp_same hret) cc)
  refine W.widen (k := k0 + 1) (n := s0 + 6) (by omega) (by omega) ?_
  exact kk u.2 z.2 f3 f4 _ _ _ hR hw hl
