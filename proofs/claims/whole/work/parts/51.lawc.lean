abbrev rL_addPulsed : Room := { frames := 8, cells := 0, slots := 0, locals := 138 }
abbrev xL_addPulsed : Room := { frames := 8, cells := 1, slots := 6, locals := 138 }
set_option maxHeartbeats 4000000 in
set_option maxRecDepth 100000 in
theorem mL_addPulsed (l : Launch) (D : va_G) (cA cR cL cF : ClassId) (a0 : A10) (v0 : V10) (p1 : Int32) (p2 : Int32) (p3 : Int32) (p4 : Int32) (p5 : Int32) (a1 : Nat) (f1 : Nat → Int64) (u : Int32 × V10) (hsp : sX10_addPulsed v0 p1 p2 p3 p4 p5 = some (.inr u)) : ML_ l yL_addPulsed wsL_addPulsed rL_addPulsed D cA cR cL cF [.ref a0.1, .int p1, .int p2, .int p3, .int p4, .int p5, .ref a1] [w10 cA cR a0 v0, [(a1, .inl (cL, 1, .inr (.inl f1)))]] (some (.int 0)) [w10 cA cR a0 u.2, [(a1, .inl (cL, 1, .inr (.inl (vp_updL f1 (0 : Int32).toNatClampNeg u.1.toInt64))))]] 0 0 := by
  refine ML_.ofW (cc := cL_addPulsed) (maxL := 8) (ret := some .int) (hh := [(0, 16, 19, 13), (0, 16, 23, 15)]) (by decide) rfl (Nat.le_of_ble_eq_true rfl) ?_
  intro p e s m args below meth c A ls Q H locs hx hb hr hlk hml hown hts hz hzl hA hzx hxt hQ hw hl
  have hl : lv_has ls 8 [(0, .ref a0.1), (1, .int p1), (2, .int p2), (3, .int p3), (4, .int p4), (5, .int p5), (6, .ref a1)] := hl
  have hw : ww A s.heap D [w10 cA cR a0 v0, [(a1, .inl (cL, 1, .inr (.inl f1)))]] H locs := hw
  refine lv_aload hx hb dL_addPulsed_0 (lv_at hl 6 rfl) ?_
  refine lv_iconst (v := 0) hx hb dL_addPulsed_2 (by decide) ?_
  refine lv_aload_n hx hb dL_addPulsed_3 rfl (lv_at hl 0 rfl) ?_
  refine lv_iload_n hx hb dL_addPulsed_4 rfl (lv_at hl 1 rfl) ?_
  refine lv_iload_n hx hb dL_addPulsed_5 rfl (lv_at hl 2 rfl) ?_
  refine lv_iload_n hx hb dL_addPulsed_6 rfl (lv_at hl 3 rfl) ?_
  refine lv_iload hx hb dL_addPulsed_7 (lv_at hl 4 rfl) ?_
  refine lv_iload hx hb dL_addPulsed_9 (lv_at hl 5 rfl) ?_
  refine k_callV (ci := 10) (C := RX10) (T := TX10) (N := 7) (nA := 5) (As := [.int p1, .int p2, .int p3, .int p4, .int p5]) (cs := [w10 cA cR a0 v0]) (rs := [[(a1, .inl (cL, 1, .inr (.inl f1)))]]) (cs1 := [w10 cA cR a0 u.2]) (bs1 := [w10 cA cR a0 u.2, [(a1, .inl (cL, 1, .inr (.inl f1)))]]) (rest := [.int (0 : Int32), .ref a1]) (st1 := [.int u.1, .int (0 : Int32), .ref a1]) ⟨hx, hb, hml, hown, hts⟩ hz hw hA (mX10_addPulsed l D cA cR a0 v0 p1 p2 p3 p4 p5 u hsp) gL_addPulsed_X10_addPulsed rfl rfl rfl (by decide +kernel) rfl ⟨Nat.le_of_ble_eq_true rfl, Nat.le_of_ble_eq_true rfl⟩ rfl rfl hl.1 rfl (Nat.le_of_ble_eq_true rfl) dL_addPulsed_11 ⟨Nat.le_of_ble_eq_true rfl, Nat.le_of_ble_eq_true rfl⟩ [0] [1] [1, 0] rfl rfl rfl rfl rfl rfl (fun H locs hw => ?_)
  refine lv_i2l hx hb dL_addPulsed_14 rfl ?_
  refine k_last (bs1 := [w10 cA cR a0 u.2, [(a1, .inl (cL, 1, .inr (.inl (vp_updL f1 (0 : Int32).toNatClampNeg u.1.toInt64))))]]) hx hb hzl hw 1 rfl (by unfold vp_in; decide) dL_addPulsed_15 rfl (fun H locs hw => ?_)
  refine lv_goto (tgt := 27) hx hb dL_addPulsed_16 (by decide) ?_
  refine lv_iconst (v := 0) hx hb dL_addPulsed_27 (by decide) ?_
  subst hQ
  exact vx_ret (k_iret hx hb hr hlk hw dL_addPulsed_28)
set_option maxHeartbeats 4000000 in
set_option maxRecDepth 100000 in
theorem t0L_addPulsed (l : Launch) (hlt : l.stackTraces = false) (D : va_G) (cA cR cL cF : ClassId) (a0 : A10) (v0 : V10) (p1 : Int32) (p2 : Int32) (p3 : Int32) (p4 : Int32) (p5 : Int32) (a1 : Nat) (f1 : Nat → Int64) (hsp : sX10_addPulsed v0 p1 p2 p3 p4 p5 = some (.inl 0)) : ML_ l yL_addPulsed wsL_addPulsed xL_addPulsed D cA cR cL cF [.ref a0.1, .int p1, .int p2, .int p3, .int p4, .int p5, .ref a1] [w10 cA cR a0 v0, [(a1, .inl (cL, 1, .inr (.inl f1)))]] (some (.int 1)) [w10 cA cR a0 v0, [(a1, .inl (cL, 1, .inr (.inl f1)))]] 1 6 := by
  refine ML_.ofW (cc := cL_addPulsed) (maxL := 8) (ret := some .int) (hh := [(0, 16, 19, 13), (0, 16, 23, 15)]) (by decide) rfl (Nat.le_of_ble_eq_true rfl) ?_
  intro p e s m args below meth c A ls Q H locs hx hb hr hlk hml hown hts hz hzl hA hzx hxt hQ hw hl
  have hl : lv_has ls 8 [(0, .ref a0.1), (1, .int p1), (2, .int p2), (3, .int p3), (4, .int p4), (5, .int p5), (6, .ref a1)] := hl
  have hw : ww A s.heap D [w10 cA cR a0 v0, [(a1, .inl (cL, 1, .inr (.inl f1)))]] H locs := hw
  refine lv_aload hx hb dL_addPulsed_0 (lv_at hl 6 rfl) ?_
  refine lv_iconst (v := 0) hx hb dL_addPulsed_2 (by decide) ?_
  refine lv_aload_n hx hb dL_addPulsed_3 rfl (lv_at hl 0 rfl) ?_
  refine lv_iload_n hx hb dL_addPulsed_4 rfl (lv_at hl 1 rfl) ?_
  refine lv_iload_n hx hb dL_addPulsed_5 rfl (lv_at hl 2 rfl) ?_
  refine lv_iload_n hx hb dL_addPulsed_6 rfl (lv_at hl 3 rfl) ?_
  refine lv_iload hx hb dL_addPulsed_7 (lv_at hl 4 rfl) ?_
  refine lv_iload hx hb dL_addPulsed_9 (lv_at hl 5 rfl) ?_
  refine k_xt (cs := [w10 cA cR a0 v0]) (rs := [[(a1, .inl (cL, 1, .inr (.inl f1)))]]) (rest := [.int (0 : Int32), .ref a1]) hw hA [0] [1] [1, 0] rfl rfl rfl rfl rfl (k_runVX (ci := 10) (C := RX10) (T := TX10) (N := 7) (nA := 5) (As := [.int p1, .int p2, .int p3, .int p4, .int p5]) (cs := [w10 cA cR a0 v0]) (rs := [[(a1, .inl (cL, 1, .inr (.inl f1)))]]) (rest := [.int (0 : Int32), .ref a1]) ⟨hx, hb, hml, hown, hts⟩ hz hzx hw hA (tX10_addPulsed l hlt D cA cR a0 v0 p1 p2 p3 p4 p5 0 hsp) gL_addPulsed_X10_addPulsed rfl rfl rfl (by decide +kernel) rfl ⟨Nat.le_of_ble_eq_true rfl, Nat.le_of_ble_eq_true rfl⟩ rfl rfl hl.1 rfl (Nat.le_of_ble_eq_true rfl) dL_addPulsed_11 ⟨Nat.le_of_ble_eq_true rfl, Nat.le_of_ble_eq_true rfl⟩ [0] [1] rfl rfl rfl) (fun H locs q ce hw h1 h2 h3 => ?_)
  refine k_catch (k := 0) (pre := []) (x := ⟨0, 16, 19, 13⟩) (suf := [⟨0, 16, 23, 15⟩]) hts hown hzx (by rw [hxt]; rfl) (by decide) (fun z hz => absurd hz List.not_mem_nil) (by decide) (by decide) (by decide +kernel) h1 h2 h3 ?_
  refine lv_astore (lv' := [(7, .ref q), (0, .ref a0.1), (1, .int p1), (2, .int p2), (3, .int p3), (4, .int p4), (5, .int p5), (6, .ref a1)]) hx hb dL_addPulsed_19 hl (by decide) rfl (fun ls hl => ?_)
  refine lv_iconst (v := 1) hx hb dL_addPulsed_21 (by decide) ?_
  subst hQ
  exact vx_ret (k_iret hx hb hr hlk hw dL_addPulsed_22)
set_option maxHeartbeats 4000000 in
set_option maxRecDepth 100000 in
theorem t1L_addPulsed (l : Launch) (hlt : l.stackTraces = false) (D : va_G) (cA cR cL cF : ClassId) (a0 : A10) (v0 : V10) (p1 : Int32) (p2 : Int32) (p3 : Int32) (p4 : Int32) (p5 : Int32) (a1 : Nat) (f1 : Nat → Int64) (hsp : sX10_addPulsed v0 p1 p2 p3 p4 p5 = some (.inl 1)) : ML_ l yL_addPulsed wsL_addPulsed xL_addPulsed D cA cR cL cF [.ref a0.1, .int p1, .int p2, .int p3, .int p4, .int p5, .ref a1] [w10 cA cR a0 v0, [(a1, .inl (cL, 1, .inr (.inl f1)))]] (some (.int 2)) [w10 cA cR a0 v0, [(a1, .inl (cL, 1, .inr (.inl f1)))]] 1 6 := by
  refine ML_.ofW (cc := cL_addPulsed) (maxL := 8) (ret := some .int) (hh := [(0, 16, 19, 13), (0, 16, 23, 15)]) (by decide) rfl (Nat.le_of_ble_eq_true rfl) ?_
  intro p e s m args below meth c A ls Q H locs hx hb hr hlk hml hown hts hz hzl hA hzx hxt hQ hw hl
  have hl : lv_has ls 8 [(0, .ref a0.1), (1, .int p1), (2, .int p2), (3, .int p3), (4, .int p4), (5, .int p5), (6, .ref a1)] := hl
  have hw : ww A s.heap D [w10 cA cR a0 v0, [(a1, .inl (cL, 1, .inr (.inl f1)))]] H locs := hw
  refine lv_aload hx hb dL_addPulsed_0 (lv_at hl 6 rfl) ?_
  refine lv_iconst (v := 0) hx hb dL_addPulsed_2 (by decide) ?_
  refine lv_aload_n hx hb dL_addPulsed_3 rfl (lv_at hl 0 rfl) ?_
  refine lv_iload_n hx hb dL_addPulsed_4 rfl (lv_at hl 1 rfl) ?_
  refine lv_iload_n hx hb dL_addPulsed_5 rfl (lv_at hl 2 rfl) ?_
  refine lv_iload_n hx hb dL_addPulsed_6 rfl (lv_at hl 3 rfl) ?_
  refine lv_iload hx hb dL_addPulsed_7 (lv_at hl 4 rfl) ?_
  refine lv_iload hx hb dL_addPulsed_9 (lv_at hl 5 rfl) ?_
  refine k_xt (cs := [w10 cA cR a0 v0]) (rs := [[(a1, .inl (cL, 1, .inr (.inl f1)))]]) (rest := [.int (0 : Int32), .ref a1]) hw hA [0] [1] [1, 0] rfl rfl rfl rfl rfl (k_runVX (ci := 10) (C := RX10) (T := TX10) (N := 7) (nA := 5) (As := [.int p1, .int p2, .int p3, .int p4, .int p5]) (cs := [w10 cA cR a0 v0]) (rs := [[(a1, .inl (cL, 1, .inr (.inl f1)))]]) (rest := [.int (0 : Int32), .ref a1]) ⟨hx, hb, hml, hown, hts⟩ hz hzx hw hA (tX10_addPulsed l hlt D cA cR a0 v0 p1 p2 p3 p4 p5 1 hsp) gL_addPulsed_X10_addPulsed rfl rfl rfl (by decide +kernel) rfl ⟨Nat.le_of_ble_eq_true rfl, Nat.le_of_ble_eq_true rfl⟩ rfl rfl hl.1 rfl (Nat.le_of_ble_eq_true rfl) dL_addPulsed_11 ⟨Nat.le_of_ble_eq_true rfl, Nat.le_of_ble_eq_true rfl⟩ [0] [1] rfl rfl rfl) (fun H locs q ce hw h1 h2 h3 => ?_)
  refine k_catch (k := 1) (pre := [⟨0, 16, 19, 13⟩]) (x := ⟨0, 16, 23, 15⟩) (suf := []) hts hown hzx (by rw [hxt]; rfl) (by decide) (fun z hz => by rcases List.mem_singleton.mp hz with rfl; exact ⟨by decide, 0, by decide, by decide, by decide +kernel⟩) (by decide) (by decide) (by decide +kernel) h1 h2 h3 ?_
  refine lv_astore (lv' := [(7, .ref q), (0, .ref a0.1), (1, .int p1), (2, .int p2), (3, .int p3), (4, .int p4), (5, .int p5), (6, .ref a1)]) hx hb dL_addPulsed_23 hl (by decide) rfl (fun ls hl => ?_)
  refine lv_iconst (v := 2) hx hb dL_addPulsed_25 (by decide) ?_
  subst hQ
  exact vx_ret (k_iret hx hb hr hlk hw dL_addPulsed_26)
abbrev rL_addHopping : Room := { frames := 8, cells := 0, slots := 0, locals := 138 }
abbrev xL_addHopping : Room := { frames := 8, cells := 1, slots := 6, locals := 138 }
set_option maxHeartbeats 4000000 in
set_option maxRecDepth 100000 in
theorem mL_addHopping (l : Launch) (D : va_G) (cA cR cL cF : ClassId) (a0 : A10) (v0 : V10) (p1 : Int32) (p2 : Int32) (p3 : Int32) (p4 : Int32) (p5 : Int32) (a1 : Nat) (f1 : Nat → Int64) (u : Int32 × V10) (hsp : sX10_addHopping v0 p1 p2 p3 p4 p5 = some (.inr u)) : ML_ l yL_addHopping wsL_addHopping rL_addHopping D cA cR cL cF [.ref a0.1, .int p1, .int p2, .int p3, .int p4, .int p5, .ref a1] [w10 cA cR a0 v0, [(a1, .inl (cL, 1, .inr (.inl f1)))]] (some (.int 0)) [w10 cA cR a0 u.2, [(a1, .inl (cL, 1, .inr (.inl (vp_updL f1 (0 : Int32).toNatClampNeg u.1.toInt64))))]] 0 0 := by
  refine ML_.ofW (cc := cL_addHopping) (maxL := 8) (ret := some .int) (hh := [(0, 16, 19, 13), (0, 16, 23, 15)]) (by decide) rfl (Nat.le_of_ble_eq_true rfl) ?_
  intro p e s m args below meth c A ls Q H locs hx hb hr hlk hml hown hts hz hzl hA hzx hxt hQ hw hl
  have hl : lv_has ls 8 [(0, .ref a0.1), (1, .int p1), (2, .int p2), (3, .int p3), (4, .int p4), (5, .int p5), (6, .ref a1)] := hl
  have hw : ww A s.heap D [w10 cA cR a0 v0, [(a1, .inl (cL, 1, .inr (.inl f1)))]] H locs := hw
  refine lv_aload hx hb dL_addHopping_0 (lv_at hl 6 rfl) ?_
  refine lv_iconst (v := 0) hx hb dL_addHopping_2 (by decide) ?_
  refine lv_aload_n hx hb dL_addHopping_3 rfl (lv_at hl 0 rfl) ?_
  refine lv_iload_n hx hb dL_addHopping_4 rfl (lv_at hl 1 rfl) ?_
  refine lv_iload_n hx hb dL_addHopping_5 rfl (lv_at hl 2 rfl) ?_
  refine lv_iload_n hx hb dL_addHopping_6 rfl (lv_at hl 3 rfl) ?_
  refine lv_iload hx hb dL_addHopping_7 (lv_at hl 4 rfl) ?_
  refine lv_iload hx hb dL_addHopping_9 (lv_at hl 5 rfl) ?_
  refine k_callV (ci := 10) (C := RX10) (T := TX10) (N := 7) (nA := 5) (As := [.int p1, .int p2, .int p3, .int p4, .int p5]) (cs := [w10 cA cR a0 v0]) (rs := [[(a1, .inl (cL, 1, .inr (.inl f1)))]]) (cs1 := [w10 cA cR a0 u.2]) (bs1 := [w10 cA cR a0 u.2, [(a1, .inl (cL, 1, .inr (.inl f1)))]]) (rest := [.int (0 : Int32), .ref a1]) (st1 := [.int u.1, .int (0 : Int32), .ref a1]) ⟨hx, hb, hml, hown, hts⟩ hz hw hA (mX10_addHopping l D cA cR a0 v0 p1 p2 p3 p4 p5 u hsp) gL_addHopping_X10_addHopping rfl rfl rfl (by decide +kernel) rfl ⟨Nat.le_of_ble_eq_true rfl, Nat.le_of_ble_eq_true rfl⟩ rfl rfl hl.1 rfl (Nat.le_of_ble_eq_true rfl) dL_addHopping_11 ⟨Nat.le_of_ble_eq_true rfl, Nat.le_of_ble_eq_true rfl⟩ [0] [1] [1, 0] rfl rfl rfl rfl rfl rfl (fun H locs hw => ?_)
  refine lv_i2l hx hb dL_addHopping_14 rfl ?_
  refine k_last (bs1 := [w10 cA cR a0 u.2, [(a1, .inl (cL, 1, .inr (.inl (vp_updL f1 (0 : Int32).toNatClampNeg u.1.toInt64))))]]) hx hb hzl hw 1 rfl (by unfold vp_in; decide) dL_addHopping_15 rfl (fun H locs hw => ?_)
  refine lv_goto (tgt := 27) hx hb dL_addHopping_16 (by decide) ?_
  refine lv_iconst (v := 0) hx hb dL_addHopping_27 (by decide) ?_
  subst hQ
  exact vx_ret (k_iret hx hb hr hlk hw dL_addHopping_28)
set_option maxHeartbeats 4000000 in
set_option maxRecDepth 100000 in
theorem t0L_addHopping (l : Launch) (hlt : l.stackTraces = false) (D : va_G) (cA cR cL cF : ClassId) (a0 : A10) (v0 : V10) (p1 : Int32) (p2 : Int32) (p3 : Int32) (p4 : Int32) (p5 : Int32) (a1 : Nat) (f1 : Nat → Int64) (hsp : sX10_addHopping v0 p1 p2 p3 p4 p5 = some (.inl 0)) : ML_ l yL_addHopping wsL_addHopping xL_addHopping D cA cR cL cF [.ref a0.1, .int p1, .int p2, .int p3, .int p4, .int p5, .ref a1] [w10 cA cR a0 v0, [(a1, .inl (cL, 1, .inr (.inl f1)))]] (some (.int 1)) [w10 cA cR a0 v0, [(a1, .inl (cL, 1, .inr (.inl f1)))]] 1 6 := by
  refine ML_.ofW (cc := cL_addHopping) (maxL := 8) (ret := some .int) (hh := [(0, 16, 19, 13), (0, 16, 23, 15)]) (by decide) rfl (Nat.le_of_ble_eq_true rfl) ?_
  intro p e s m args below meth c A ls Q H locs hx hb hr hlk hml hown hts hz hzl hA hzx hxt hQ hw hl
  have hl : lv_has ls 8 [(0, .ref a0.1), (1, .int p1), (2, .int p2), (3, .int p3), (4, .int p4), (5, .int p5), (6, .ref a1)] := hl
  have hw : ww A s.heap D [w10 cA cR a0 v0, [(a1, .inl (cL, 1, .inr (.inl f1)))]] H locs := hw
  refine lv_aload hx hb dL_addHopping_0 (lv_at hl 6 rfl) ?_
  refine lv_iconst (v := 0) hx hb dL_addHopping_2 (by decide) ?_
  refine lv_aload_n hx hb dL_addHopping_3 rfl (lv_at hl 0 rfl) ?_
  refine lv_iload_n hx hb dL_addHopping_4 rfl (lv_at hl 1 rfl) ?_
  refine lv_iload_n hx hb dL_addHopping_5 rfl (lv_at hl 2 rfl) ?_
  refine lv_iload_n hx hb dL_addHopping_6 rfl (lv_at hl 3 rfl) ?_
  refine lv_iload hx hb dL_addHopping_7 (lv_at hl 4 rfl) ?_
  refine lv_iload hx hb dL_addHopping_9 (lv_at hl 5 rfl) ?_
  refine k_xt (cs := [w10 cA cR a0 v0]) (rs := [[(a1, .inl (cL, 1, .inr (.inl f1)))]]) (rest := [.int (0 : Int32), .ref a1]) hw hA [0] [1] [1, 0] rfl rfl rfl rfl rfl (k_runVX (ci := 10) (C := RX10) (T := TX10) (N := 7) (nA := 5) (As := [.int p1, .int p2, .int p3, .int p4, .int p5]) (cs := [w10 cA cR a0 v0]) (rs := [[(a1, .inl (cL, 1, .inr (.inl f1)))]]) (rest := [.int (0 : Int32), .ref a1]) ⟨hx, hb, hml, hown, hts⟩ hz hzx hw hA (tX10_addHopping l hlt D cA cR a0 v0 p1 p2 p3 p4 p5 0 hsp) gL_addHopping_X10_addHopping rfl rfl rfl (by decide +kernel) rfl ⟨Nat.le_of_ble_eq_true rfl, Nat.le_of_ble_eq_true rfl⟩ rfl rfl hl.1 rfl (Nat.le_of_ble_eq_true rfl) dL_addHopping_11 ⟨Nat.le_of_ble_eq_true rfl, Nat.le_of_ble_eq_true rfl⟩ [0] [1] rfl rfl rfl) (fun H locs q ce hw h1 h2 h3 => ?_)
  refine k_catch (k := 0) (pre := []) (x := ⟨0, 16, 19, 13⟩) (suf := [⟨0, 16, 23, 15⟩]) hts hown hzx (by rw [hxt]; rfl) (by decide) (fun z hz => absurd hz List.not_mem_nil) (by decide) (by decide) (by decide +kernel) h1 h2 h3 ?_
  refine lv_astore (lv' := [(7, .ref q), (0, .ref a0.1), (1, .int p1), (2, .int p2), (3, .int p3), (4, .int p4), (5, .int p5), (6, .ref a1)]) hx hb dL_addHopping_19 hl (by decide) rfl (fun ls hl => ?_)
  refine lv_iconst (v := 1) hx hb dL_addHopping_21 (by decide) ?_
  subst hQ
  exact vx_ret (k_iret hx hb hr hlk hw dL_addHopping_22)
set_option maxHeartbeats 4000000 in
set_option maxRecDepth 100000 in
theorem t1L_addHopping (l : Launch) (hlt : l.stackTraces = false) (D : va_G) (cA cR cL cF : ClassId) (a0 : A10) (v0 : V10) (p1 : Int32) (p2 : Int32) (p3 : Int32) (p4 : Int32) (p5 : Int32) (a1 : Nat) (f1 : Nat → Int64) (hsp : sX10_addHopping v0 p1 p2 p3 p4 p5 = some (.inl 1)) : ML_ l yL_addHopping wsL_addHopping xL_addHopping D cA cR cL cF [.ref a0.1, .int p1, .int p2, .int p3, .int p4, .int p5, .ref a1] [w10 cA cR a0 v0, [(a1, .inl (cL, 1, .inr (.inl f1)))]] (some (.int 2)) [w10 cA cR a0 v0, [(a1, .inl (cL, 1, .inr (.inl f1)))]] 1 6 := by
  refine ML_.ofW (cc := cL_addHopping) (maxL := 8) (ret := some .int) (hh := [(0, 16, 19, 13), (0, 16, 23, 15)]) (by decide) rfl (Nat.le_of_ble_eq_true rfl) ?_
  intro p e s m args below meth c A ls Q H locs hx hb hr hlk hml hown hts hz hzl hA hzx hxt hQ hw hl
  have hl : lv_has ls 8 [(0, .ref a0.1), (1, .int p1), (2, .int p2), (3, .int p3), (4, .int p4), (5, .int p5), (6, .ref a1)] := hl
  have hw : ww A s.heap D [w10 cA cR a0 v0, [(a1, .inl (cL, 1, .inr (.inl f1)))]] H locs := hw
  refine lv_aload hx hb dL_addHopping_0 (lv_at hl 6 rfl) ?_
  refine lv_iconst (v := 0) hx hb dL_addHopping_2 (by decide) ?_
  refine lv_aload_n hx hb dL_addHopping_3 rfl (lv_at hl 0 rfl) ?_
  refine lv_iload_n hx hb dL_addHopping_4 rfl (lv_at hl 1 rfl) ?_
  refine lv_iload_n hx hb dL_addHopping_5 rfl (lv_at hl 2 rfl) ?_
  refine lv_iload_n hx hb dL_addHopping_6 rfl (lv_at hl 3 rfl) ?_
  refine lv_iload hx hb dL_addHopping_7 (lv_at hl 4 rfl) ?_
  refine lv_iload hx hb dL_addHopping_9 (lv_at hl 5 rfl) ?_
  refine k_xt (cs := [w10 cA cR a0 v0]) (rs := [[(a1, .inl (cL, 1, .inr (.inl f1)))]]) (rest := [.int (0 : Int32), .ref a1]) hw hA [0] [1] [1, 0] rfl rfl rfl rfl rfl (k_runVX (ci := 10) (C := RX10) (T := TX10) (N := 7) (nA := 5) (As := [.int p1, .int p2, .int p3, .int p4, .int p5]) (cs := [w10 cA cR a0 v0]) (rs := [[(a1, .inl (cL, 1, .inr (.inl f1)))]]) (rest := [.int (0 : Int32), .ref a1]) ⟨hx, hb, hml, hown, hts⟩ hz hzx hw hA (tX10_addHopping l hlt D cA cR a0 v0 p1 p2 p3 p4 p5 1 hsp) gL_addHopping_X10_addHopping rfl rfl rfl (by decide +kernel) rfl ⟨Nat.le_of_ble_eq_true rfl, Nat.le_of_ble_eq_true rfl⟩ rfl rfl hl.1 rfl (Nat.le_of_ble_eq_true rfl) dL_addHopping_11 ⟨Nat.le_of_ble_eq_true rfl, Nat.le_of_ble_eq_true rfl⟩ [0] [1] rfl rfl rfl) (fun H locs q ce hw h1 h2 h3 => ?_)
  refine k_catch (k := 1) (pre := [⟨0, 16, 19, 13⟩]) (x := ⟨0, 16, 23, 15⟩) (suf := []) hts hown hzx (by rw [hxt]; rfl) (by decide) (fun z hz => by rcases List.mem_singleton.mp hz with rfl; exact ⟨by decide, 0, by decide, by decide, by decide +kernel⟩) (by decide) (by decide) (by decide +kernel) h1 h2 h3 ?_
  refine lv_astore (lv' := [(7, .ref q), (0, .ref a0.1), (1, .int p1), (2, .int p2), (3, .int p3), (4, .int p4), (5, .int p5), (6, .ref a1)]) hx hb dL_addHopping_23 hl (by decide) rfl (fun ls hl => ?_)
  refine lv_iconst (v := 2) hx hb dL_addHopping_25 (by decide) ?_
  subst hQ
  exact vx_ret (k_iret hx hb hr hlk hw dL_addHopping_26)
abbrev rL_removeSignal : Room := { frames := 8, cells := 0, slots := 0, locals := 132 }
abbrev xL_removeSignal : Room := { frames := 8, cells := 1, slots := 6, locals := 132 }
set_option maxHeartbeats 4000000 in
set_option maxRecDepth 100000 in
theorem mL_removeSignal (l : Launch) (D : va_G) (cA cR cL cF : ClassId) (a0 : A10) (v0 : V10) (p1 : Int32) (a1 : Nat) (f1 : Nat → Int64) (u : Int32 × V10) (hsp : sX10_removeSignal v0 p1 = some (.inr u)) : ML_ l yL_removeSignal wsL_removeSignal rL_removeSignal D cA cR cL cF [.ref a0.1, .int p1, .ref a1] [w10 cA cR a0 v0, [(a1, .inl (cL, 1, .inr (.inl f1)))]] (some (.int 0)) [w10 cA cR a0 u.2, [(a1, .inl (cL, 1, .inr (.inl (vp_updL f1 (0 : Int32).toNatClampNeg u.1.toInt64))))]] 0 0 := by
  refine ML_.ofW (cc := cL_removeSignal) (maxL := 4) (ret := some .int) (hh := [(0, 9, 12, 24)]) (by decide) rfl (Nat.le_of_ble_eq_true rfl) ?_
  intro p e s m args below meth c A ls Q H locs hx hb hr hlk hml hown hts hz hzl hA hzx hxt hQ hw hl
  have hl : lv_has ls 4 [(0, .ref a0.1), (1, .int p1), (2, .ref a1)] := hl
  have hw : ww A s.heap D [w10 cA cR a0 v0, [(a1, .inl (cL, 1, .inr (.inl f1)))]] H locs := hw
  refine lv_aload_n hx hb dL_removeSignal_0 rfl (lv_at hl 2 rfl) ?_
  refine lv_iconst (v := 0) hx hb dL_removeSignal_1 (by decide) ?_
  refine lv_aload_n hx hb dL_removeSignal_2 rfl (lv_at hl 0 rfl) ?_
  refine lv_iload_n hx hb dL_removeSignal_3 rfl (lv_at hl 1 rfl) ?_
  refine k_callV (ci := 10) (C := RX10) (T := TX10) (N := 7) (nA := 1) (As := [.int p1]) (cs := [w10 cA cR a0 v0]) (rs := [[(a1, .inl (cL, 1, .inr (.inl f1)))]]) (cs1 := [w10 cA cR a0 u.2]) (bs1 := [w10 cA cR a0 u.2, [(a1, .inl (cL, 1, .inr (.inl f1)))]]) (rest := [.int (0 : Int32), .ref a1]) (st1 := [.int u.1, .int (0 : Int32), .ref a1]) ⟨hx, hb, hml, hown, hts⟩ hz hw hA (mX10_removeSignal l D cA cR a0 v0 p1 u hsp) gL_removeSignal_X10_removeSignal rfl rfl rfl (by decide +kernel) rfl ⟨Nat.le_of_ble_eq_true rfl, Nat.le_of_ble_eq_true rfl⟩ rfl rfl hl.1 rfl (Nat.le_of_ble_eq_true rfl) dL_removeSignal_4 ⟨Nat.le_of_ble_eq_true rfl, Nat.le_of_ble_eq_true rfl⟩ [0] [1] [1, 0] rfl rfl rfl rfl rfl rfl (fun H locs hw => ?_)
  refine lv_i2l hx hb dL_removeSignal_7 rfl ?_
  refine k_last (bs1 := [w10 cA cR a0 u.2, [(a1, .inl (cL, 1, .inr (.inl (vp_updL f1 (0 : Int32).toNatClampNeg u.1.toInt64))))]]) hx hb hzl hw 1 rfl (by unfold vp_in; decide) dL_removeSignal_8 rfl (fun H locs hw => ?_)
  refine lv_goto (tgt := 15) hx hb dL_removeSignal_9 (by decide) ?_
  refine lv_iconst (v := 0) hx hb dL_removeSignal_15 (by decide) ?_
  subst hQ
  exact vx_ret (k_iret hx hb hr hlk hw dL_removeSignal_16)
set_option maxHeartbeats 4000000 in
set_option maxRecDepth 100000 in
theorem t0L_removeSignal (l : Launch) (hlt : l.stackTraces = false) (D : va_G) (cA cR cL cF : ClassId) (a0 : A10) (v0 : V10) (p1 : Int32) (a1 : Nat) (f1 : Nat → Int64) (hsp : sX10_removeSignal v0 p1 = some (.inl 2)) : ML_ l yL_removeSignal wsL_removeSignal xL_removeSignal D cA cR cL cF [.ref a0.1, .int p1, .ref a1] [w10 cA cR a0 v0, [(a1, .inl (cL, 1, .inr (.inl f1)))]] (some (.int 1)) [w10 cA cR a0 v0, [(a1, .inl (cL, 1, .inr (.inl f1)))]] 1 6 := by
  refine ML_.ofW (cc := cL_removeSignal) (maxL := 4) (ret := some .int) (hh := [(0, 9, 12, 24)]) (by decide) rfl (Nat.le_of_ble_eq_true rfl) ?_
  intro p e s m args below meth c A ls Q H locs hx hb hr hlk hml hown hts hz hzl hA hzx hxt hQ hw hl
  have hl : lv_has ls 4 [(0, .ref a0.1), (1, .int p1), (2, .ref a1)] := hl
  have hw : ww A s.heap D [w10 cA cR a0 v0, [(a1, .inl (cL, 1, .inr (.inl f1)))]] H locs := hw
  refine lv_aload_n hx hb dL_removeSignal_0 rfl (lv_at hl 2 rfl) ?_
  refine lv_iconst (v := 0) hx hb dL_removeSignal_1 (by decide) ?_
  refine lv_aload_n hx hb dL_removeSignal_2 rfl (lv_at hl 0 rfl) ?_
  refine lv_iload_n hx hb dL_removeSignal_3 rfl (lv_at hl 1 rfl) ?_
  refine k_xt (cs := [w10 cA cR a0 v0]) (rs := [[(a1, .inl (cL, 1, .inr (.inl f1)))]]) (rest := [.int (0 : Int32), .ref a1]) hw hA [0] [1] [1, 0] rfl rfl rfl rfl rfl (k_runVX (ci := 10) (C := RX10) (T := TX10) (N := 7) (nA := 1) (As := [.int p1]) (cs := [w10 cA cR a0 v0]) (rs := [[(a1, .inl (cL, 1, .inr (.inl f1)))]]) (rest := [.int (0 : Int32), .ref a1]) ⟨hx, hb, hml, hown, hts⟩ hz hzx hw hA (tX10_removeSignal l hlt D cA cR a0 v0 p1 2 hsp) gL_removeSignal_X10_removeSignal rfl rfl rfl (by decide +kernel) rfl ⟨Nat.le_of_ble_eq_true rfl, Nat.le_of_ble_eq_true rfl⟩ rfl rfl hl.1 rfl (Nat.le_of_ble_eq_true rfl) dL_removeSignal_4 ⟨Nat.le_of_ble_eq_true rfl, Nat.le_of_ble_eq_true rfl⟩ [0] [1] rfl rfl rfl) (fun H locs q ce hw h1 h2 h3 => ?_)
  refine k_catch (k := 2) (pre := []) (x := ⟨0, 9, 12, 24⟩) (suf := []) hts hown hzx (by rw [hxt]; rfl) (by decide) (fun z hz => absurd hz List.not_mem_nil) (by decide) (by decide) (by decide +kernel) h1 h2 h3 ?_
  refine lv_astore_n (lv' := [(3, .ref q), (0, .ref a0.1), (1, .int p1), (2, .ref a1)]) hx hb dL_removeSignal_12 rfl hl (by decide) rfl (fun ls hl => ?_)
  refine lv_iconst (v := 1) hx hb dL_removeSignal_13 (by decide) ?_
  subst hQ
  exact vx_ret (k_iret hx hb hr hlk hw dL_removeSignal_14)
abbrev rL_setLevels : Room := { frames := 8, cells := 0, slots := 0, locals := 135 }
abbrev xL_setLevels : Room := { frames := 8, cells := 1, slots := 6, locals := 135 }
set_option maxHeartbeats 4000000 in
set_option maxRecDepth 100000 in
theorem mL_setLevels (l : Launch) (D : va_G) (cA cR cL cF : ClassId) (a0 : A10) (v0 : V10) (p1 : Int32) (p2 : Int32) (a1 : Nat) (f1 : Nat → Int64) (u : Int32 × V10) (hsp : sX10_setLevels v0 p1 p2 = some (.inr u)) : ML_ l yL_setLevels wsL_setLevels rL_setLevels D cA cR cL cF [.ref a0.1, .int p1, .int p2, .ref a1] [w10 cA cR a0 v0, [(a1, .inl (cL, 1, .inr (.inl f1)))]] (some (.int 0)) [w10 cA cR a0 u.2, [(a1, .inl (cL, 1, .inr (.inl (vp_updL f1 (0 : Int32).toNatClampNeg u.1.toInt64))))]] 0 0 := by
  refine ML_.ofW (cc := cL_setLevels) (maxL := 5) (ret := some .int) (hh := [(0, 10, 13, 13)]) (by decide) rfl (Nat.le_of_ble_eq_true rfl) ?_
  intro p e s m args below meth c A ls Q H locs hx hb hr hlk hml hown hts hz hzl hA hzx hxt hQ hw hl
  have hl : lv_has ls 5 [(0, .ref a0.1), (1, .int p1), (2, .int p2), (3, .ref a1)] := hl
  have hw : ww A s.heap D [w10 cA cR a0 v0, [(a1, .inl (cL, 1, .inr (.inl f1)))]] H locs := hw
  refine lv_aload_n hx hb dL_setLevels_0 rfl (lv_at hl 3 rfl) ?_
  refine lv_iconst (v := 0) hx hb dL_setLevels_1 (by decide) ?_
  refine lv_aload_n hx hb dL_setLevels_2 rfl (lv_at hl 0 rfl) ?_
  refine lv_iload_n hx hb dL_setLevels_3 rfl (lv_at hl 1 rfl) ?_
  refine lv_iload_n hx hb dL_setLevels_4 rfl (lv_at hl 2 rfl) ?_
  refine k_callV (ci := 10) (C := RX10) (T := TX10) (N := 7) (nA := 2) (As := [.int p1, .int p2]) (cs := [w10 cA cR a0 v0]) (rs := [[(a1, .inl (cL, 1, .inr (.inl f1)))]]) (cs1 := [w10 cA cR a0 u.2]) (bs1 := [w10 cA cR a0 u.2, [(a1, .inl (cL, 1, .inr (.inl f1)))]]) (rest := [.int (0 : Int32), .ref a1]) (st1 := [.int u.1, .int (0 : Int32), .ref a1]) ⟨hx, hb, hml, hown, hts⟩ hz hw hA (mX10_setLevels l D cA cR a0 v0 p1 p2 u hsp) gL_setLevels_X10_setLevels rfl rfl rfl (by decide +kernel) rfl ⟨Nat.le_of_ble_eq_true rfl, Nat.le_of_ble_eq_true rfl⟩ rfl rfl hl.1 rfl (Nat.le_of_ble_eq_true rfl) dL_setLevels_5 ⟨Nat.le_of_ble_eq_true rfl, Nat.le_of_ble_eq_true rfl⟩ [0] [1] [1, 0] rfl rfl rfl rfl rfl rfl (fun H locs hw => ?_)
  refine lv_i2l hx hb dL_setLevels_8 rfl ?_
  refine k_last (bs1 := [w10 cA cR a0 u.2, [(a1, .inl (cL, 1, .inr (.inl (vp_updL f1 (0 : Int32).toNatClampNeg u.1.toInt64))))]]) hx hb hzl hw 1 rfl (by unfold vp_in; decide) dL_setLevels_9 rfl (fun H locs hw => ?_)
  refine lv_goto (tgt := 17) hx hb dL_setLevels_10 (by decide) ?_
  refine lv_iconst (v := 0) hx hb dL_setLevels_17 (by decide) ?_
  subst hQ
  exact vx_ret (k_iret hx hb hr hlk hw dL_setLevels_18)
set_option maxHeartbeats 4000000 in
set_option maxRecDepth 100000 in
theorem t0L_setLevels (l : Launch) (hlt : l.stackTraces = false) (D : va_G) (cA cR cL cF : ClassId) (a0 : A10) (v0 : V10) (p1 : Int32) (p2 : Int32) (a1 : Nat) (f1 : Nat → Int64) (hsp : sX10_setLevels v0 p1 p2 = some (.inl 0)) : ML_ l yL_setLevels wsL_setLevels xL_setLevels D cA cR cL cF [.ref a0.1, .int p1, .int p2, .ref a1] [w10 cA cR a0 v0, [(a1, .inl (cL, 1, .inr (.inl f1)))]] (some (.int 1)) [w10 cA cR a0 v0, [(a1, .inl (cL, 1, .inr (.inl f1)))]] 1 6 := by
  refine ML_.ofW (cc := cL_setLevels) (maxL := 5) (ret := some .int) (hh := [(0, 10, 13, 13)]) (by decide) rfl (Nat.le_of_ble_eq_true rfl) ?_
  intro p e s m args below meth c A ls Q H locs hx hb hr hlk hml hown hts hz hzl hA hzx hxt hQ hw hl
  have hl : lv_has ls 5 [(0, .ref a0.1), (1, .int p1), (2, .int p2), (3, .ref a1)] := hl
  have hw : ww A s.heap D [w10 cA cR a0 v0, [(a1, .inl (cL, 1, .inr (.inl f1)))]] H locs := hw
  refine lv_aload_n hx hb dL_setLevels_0 rfl (lv_at hl 3 rfl) ?_
  refine lv_iconst (v := 0) hx hb dL_setLevels_1 (by decide) ?_
  refine lv_aload_n hx hb dL_setLevels_2 rfl (lv_at hl 0 rfl) ?_
  refine lv_iload_n hx hb dL_setLevels_3 rfl (lv_at hl 1 rfl) ?_
  refine lv_iload_n hx hb dL_setLevels_4 rfl (lv_at hl 2 rfl) ?_
  refine k_xt (cs := [w10 cA cR a0 v0]) (rs := [[(a1, .inl (cL, 1, .inr (.inl f1)))]]) (rest := [.int (0 : Int32), .ref a1]) hw hA [0] [1] [1, 0] rfl rfl rfl rfl rfl (k_runVX (ci := 10) (C := RX10) (T := TX10) (N := 7) (nA := 2) (As := [.int p1, .int p2]) (cs := [w10 cA cR a0 v0]) (rs := [[(a1, .inl (cL, 1, .inr (.inl f1)))]]) (rest := [.int (0 : Int32), .ref a1]) ⟨hx, hb, hml, hown, hts⟩ hz hzx hw hA (tX10_setLevels l hlt D cA cR a0 v0 p1 p2 0 hsp) gL_setLevels_X10_setLevels rfl rfl rfl (by decide +kernel) rfl ⟨Nat.le_of_ble_eq_true rfl, Nat.le_of_ble_eq_true rfl⟩ rfl rfl hl.1 rfl (Nat.le_of_ble_eq_true rfl) dL_setLevels_5 ⟨Nat.le_of_ble_eq_true rfl, Nat.le_of_ble_eq_true rfl⟩ [0] [1] rfl rfl rfl) (fun H locs q ce hw h1 h2 h3 => ?_)
  refine k_catch (k := 0) (pre := []) (x := ⟨0, 10, 13, 13⟩) (suf := []) hts hown hzx (by rw [hxt]; rfl) (by decide) (fun z hz => absurd hz List.not_mem_nil) (by decide) (by decide) (by decide +kernel) h1 h2 h3 ?_
  refine lv_astore (lv' := [(4, .ref q), (0, .ref a0.1), (1, .int p1), (2, .int p2), (3, .ref a1)]) hx hb dL_setLevels_13 hl (by decide) rfl (fun ls hl => ?_)
  refine lv_iconst (v := 1) hx hb dL_setLevels_15 (by decide) ?_
  subst hQ
  exact vx_ret (k_iret hx hb hr hlk hw dL_setLevels_16)
abbrev rL_setMask : Room := { frames := 8, cells := 0, slots := 0, locals := 136 }
abbrev xL_setMask : Room := { frames := 8, cells := 1, slots := 6, locals := 136 }
set_option maxHeartbeats 4000000 in
set_option maxRecDepth 100000 in
theorem mL_setMask (l : Launch) (D : va_G) (cA cR cL cF : ClassId) (N : Nat) (a0 : A10) (v0 : V10) (p1 : Int32) (p2 : Int32) (p3 : Int32) (a1 : Nat) (f1 : Nat → Int64) (u : Int32 × V10) (hsp : sX10_setMask N v0 p1 p2 p3 = some (.inr u)) : ML_ l yL_setMask wsL_setMask rL_setMask D cA cR cL cF [.ref a0.1, .int p1, .int p2, .int p3, .ref a1] [w10 cA cR a0 v0, [(a1, .inl (cL, 1, .inr (.inl f1)))]] (some (.int 0)) [w10 cA cR a0 u.2, [(a1, .inl (cL, 1, .inr (.inl (vp_updL f1 (0 : Int32).toNatClampNeg u.1.toInt64))))]] 0 0 := by
  refine ML_.ofW (cc := cL_setMask) (maxL := 6) (ret := some .int) (hh := [(0, 12, 15, 24), (0, 12, 19, 13)]) (by decide) rfl (Nat.le_of_ble_eq_true rfl) ?_
  intro p e s m args below meth c A ls Q H locs hx hb hr hlk hml hown hts hz hzl hA hzx hxt hQ hw hl
  have hl : lv_has ls 6 [(0, .ref a0.1), (1, .int p1), (2, .int p2), (3, .int p3), (4, .ref a1)] := hl
  have hw : ww A s.heap D [w10 cA cR a0 v0, [(a1, .inl (cL, 1, .inr (.inl f1)))]] H locs := hw
  refine lv_aload hx hb dL_setMask_0 (lv_at hl 4 rfl) ?_
  refine lv_iconst (v := 0) hx hb dL_setMask_2 (by decide) ?_
  refine lv_aload_n hx hb dL_setMask_3 rfl (lv_at hl 0 rfl) ?_
  refine lv_iload_n hx hb dL_setMask_4 rfl (lv_at hl 1 rfl) ?_
  refine lv_iload_n hx hb dL_setMask_5 rfl (lv_at hl 2 rfl) ?_
  refine lv_iload_n hx hb dL_setMask_6 rfl (lv_at hl 3 rfl) ?_
  refine k_callV (ci := 10) (C := RX10) (T := TX10) (N := 7) (nA := 3) (As := [.int p1, .int p2, .int p3]) (cs := [w10 cA cR a0 v0]) (rs := [[(a1, .inl (cL, 1, .inr (.inl f1)))]]) (cs1 := [w10 cA cR a0 u.2]) (bs1 := [w10 cA cR a0 u.2, [(a1, .inl (cL, 1, .inr (.inl f1)))]]) (rest := [.int (0 : Int32), .ref a1]) (st1 := [.int u.1, .int (0 : Int32), .ref a1]) ⟨hx, hb, hml, hown, hts⟩ hz hw hA (mX10_setMask l D cA cR N a0 v0 p1 p2 p3 u hsp) gL_setMask_X10_setMask rfl rfl rfl (by decide +kernel) rfl ⟨Nat.le_of_ble_eq_true rfl, Nat.le_of_ble_eq_true rfl⟩ rfl rfl hl.1 rfl (Nat.le_of_ble_eq_true rfl) dL_setMask_7 ⟨Nat.le_of_ble_eq_true rfl, Nat.le_of_ble_eq_true rfl⟩ [0] [1] [1, 0] rfl rfl rfl rfl rfl rfl (fun H locs hw => ?_)
  refine lv_i2l hx hb dL_setMask_10 rfl ?_
  refine k_last (bs1 := [w10 cA cR a0 u.2, [(a1, .inl (cL, 1, .inr (.inl (vp_updL f1 (0 : Int32).toNatClampNeg u.1.toInt64))))]]) hx hb hzl hw 1 rfl (by unfold vp_in; decide) dL_setMask_11 rfl (fun H locs hw => ?_)
  refine lv_goto (tgt := 23) hx hb dL_setMask_12 (by decide) ?_
  refine lv_iconst (v := 0) hx hb dL_setMask_23 (by decide) ?_
  subst hQ
  exact vx_ret (k_iret hx hb hr hlk hw dL_setMask_24)
set_option maxHeartbeats 4000000 in
set_option maxRecDepth 100000 in
theorem t0L_setMask (l : Launch) (hlt : l.stackTraces = false) (D : va_G) (cA cR cL cF : ClassId) (N : Nat) (a0 : A10) (v0 : V10) (p1 : Int32) (p2 : Int32) (p3 : Int32) (a1 : Nat) (f1 : Nat → Int64) (hsp : sX10_setMask N v0 p1 p2 p3 = some (.inl 2)) : ML_ l yL_setMask wsL_setMask xL_setMask D cA cR cL cF [.ref a0.1, .int p1, .int p2, .int p3, .ref a1] [w10 cA cR a0 v0, [(a1, .inl (cL, 1, .inr (.inl f1)))]] (some (.int 1)) [w10 cA cR a0 v0, [(a1, .inl (cL, 1, .inr (.inl f1)))]] 1 6 := by
  refine ML_.ofW (cc := cL_setMask) (maxL := 6) (ret := some .int) (hh := [(0, 12, 15, 24), (0, 12, 19, 13)]) (by decide) rfl (Nat.le_of_ble_eq_true rfl) ?_
  intro p e s m args below meth c A ls Q H locs hx hb hr hlk hml hown hts hz hzl hA hzx hxt hQ hw hl
  have hl : lv_has ls 6 [(0, .ref a0.1), (1, .int p1), (2, .int p2), (3, .int p3), (4, .ref a1)] := hl
  have hw : ww A s.heap D [w10 cA cR a0 v0, [(a1, .inl (cL, 1, .inr (.inl f1)))]] H locs := hw
  refine lv_aload hx hb dL_setMask_0 (lv_at hl 4 rfl) ?_
  refine lv_iconst (v := 0) hx hb dL_setMask_2 (by decide) ?_
  refine lv_aload_n hx hb dL_setMask_3 rfl (lv_at hl 0 rfl) ?_
  refine lv_iload_n hx hb dL_setMask_4 rfl (lv_at hl 1 rfl) ?_
  refine lv_iload_n hx hb dL_setMask_5 rfl (lv_at hl 2 rfl) ?_
  refine lv_iload_n hx hb dL_setMask_6 rfl (lv_at hl 3 rfl) ?_
  refine k_xt (cs := [w10 cA cR a0 v0]) (rs := [[(a1, .inl (cL, 1, .inr (.inl f1)))]]) (rest := [.int (0 : Int32), .ref a1]) hw hA [0] [1] [1, 0] rfl rfl rfl rfl rfl (k_runVX (ci := 10) (C := RX10) (T := TX10) (N := 7) (nA := 3) (As := [.int p1, .int p2, .int p3]) (cs := [w10 cA cR a0 v0]) (rs := [[(a1, .inl (cL, 1, .inr (.inl f1)))]]) (rest := [.int (0 : Int32), .ref a1]) ⟨hx, hb, hml, hown, hts⟩ hz hzx hw hA (tX10_setMask l hlt D cA cR N a0 v0 p1 p2 p3 2 hsp) gL_setMask_X10_setMask rfl rfl rfl (by decide +kernel) rfl ⟨Nat.le_of_ble_eq_true rfl, Nat.le_of_ble_eq_true rfl⟩ rfl rfl hl.1 rfl (Nat.le_of_ble_eq_true rfl) dL_setMask_7 ⟨Nat.le_of_ble_eq_true rfl, Nat.le_of_ble_eq_true rfl⟩ [0] [1] rfl rfl rfl) (fun H locs q ce hw h1 h2 h3 => ?_)
  refine k_catch (k := 2) (pre := []) (x := ⟨0, 12, 15, 24⟩) (suf := [⟨0, 12, 19, 13⟩]) hts hown hzx (by rw [hxt]; rfl) (by decide) (fun z hz => absurd hz List.not_mem_nil) (by decide) (by decide) (by decide +kernel) h1 h2 h3 ?_
  refine lv_astore (lv' := [(5, .ref q), (0, .ref a0.1), (1, .int p1), (2, .int p2), (3, .int p3), (4, .ref a1)]) hx hb dL_setMask_15 hl (by decide) rfl (fun ls hl => ?_)
  refine lv_iconst (v := 1) hx hb dL_setMask_17 (by decide) ?_
  subst hQ
  exact vx_ret (k_iret hx hb hr hlk hw dL_setMask_18)
set_option maxHeartbeats 4000000 in
set_option maxRecDepth 100000 in
theorem t1L_setMask (l : Launch) (hlt : l.stackTraces = false) (D : va_G) (cA cR cL cF : ClassId) (N : Nat) (a0 : A10) (v0 : V10) (p1 : Int32) (p2 : Int32) (p3 : Int32) (a1 : Nat) (f1 : Nat → Int64) (hsp : sX10_setMask N v0 p1 p2 p3 = some (.inl 0)) : ML_ l yL_setMask wsL_setMask xL_setMask D cA cR cL cF [.ref a0.1, .int p1, .int p2, .int p3, .ref a1] [w10 cA cR a0 v0, [(a1, .inl (cL, 1, .inr (.inl f1)))]] (some (.int 2)) [w10 cA cR a0 v0, [(a1, .inl (cL, 1, .inr (.inl f1)))]] 1 6 := by
  refine ML_.ofW (cc := cL_setMask) (maxL := 6) (ret := some .int) (hh := [(0, 12, 15, 24), (0, 12, 19, 13)]) (by decide) rfl (Nat.le_of_ble_eq_true rfl) ?_
  intro p e s m args below meth c A ls Q H locs hx hb hr hlk hml hown hts hz hzl hA hzx hxt hQ hw hl
  have hl : lv_has ls 6 [(0, .ref a0.1), (1, .int p1), (2, .int p2), (3, .int p3), (4, .ref a1)] := hl
  have hw : ww A s.heap D [w10 cA cR a0 v0, [(a1, .inl (cL, 1, .inr (.inl f1)))]] H locs := hw
  refine lv_aload hx hb dL_setMask_0 (lv_at hl 4 rfl) ?_
  refine lv_iconst (v := 0) hx hb dL_setMask_2 (by decide) ?_
  refine lv_aload_n hx hb dL_setMask_3 rfl (lv_at hl 0 rfl) ?_
  refine lv_iload_n hx hb dL_setMask_4 rfl (lv_at hl 1 rfl) ?_
  refine lv_iload_n hx hb dL_setMask_5 rfl (lv_at hl 2 rfl) ?_
  refine lv_iload_n hx hb dL_setMask_6 rfl (lv_at hl 3 rfl) ?_
  refine k_xt (cs := [w10 cA cR a0 v0]) (rs := [[(a1, .inl (cL, 1, .inr (.inl f1)))]]) (rest := [.int (0 : Int32), .ref a1]) hw hA [0] [1] [1, 0] rfl rfl rfl rfl rfl (k_runVX (ci := 10) (C := RX10) (T := TX10) (N := 7) (nA := 3) (As := [.int p1, .int p2, .int p3]) (cs := [w10 cA cR a0 v0]) (rs := [[(a1, .inl (cL, 1, .inr (.inl f1)))]]) (rest := [.int (0 : Int32), .ref a1]) ⟨hx, hb, hml, hown, hts⟩ hz hzx hw hA (tX10_setMask l hlt D cA cR N a0 v0 p1 p2 p3 0 hsp) gL_setMask_X10_setMask rfl rfl rfl (by decide +kernel) rfl ⟨Nat.le_of_ble_eq_true rfl, Nat.le_of_ble_eq_true rfl⟩ rfl rfl hl.1 rfl (Nat.le_of_ble_eq_true rfl) dL_setMask_7 ⟨Nat.le_of_ble_eq_true rfl, Nat.le_of_ble_eq_true rfl⟩ [0] [1] rfl rfl rfl) (fun H locs q ce hw h1 h2 h3 => ?_)
  refine k_catch (k := 0) (pre := [⟨0, 12, 15, 24⟩]) (x := ⟨0, 12, 19, 13⟩) (suf := []) hts hown hzx (by rw [hxt]; rfl) (by decide) (fun z hz => by rcases List.mem_singleton.mp hz with rfl; exact ⟨by decide, 2, by decide, by decide, by decide +kernel⟩) (by decide) (by decide) (by decide +kernel) h1 h2 h3 ?_
  refine lv_astore (lv' := [(5, .ref q), (0, .ref a0.1), (1, .int p1), (2, .int p2), (3, .int p3), (4, .ref a1)]) hx hb dL_setMask_19 hl (by decide) rfl (fun ls hl => ?_)
  refine lv_iconst (v := 2) hx hb dL_setMask_21 (by decide) ?_
  subst hQ
  exact vx_ret (k_iret hx hb hr hlk hw dL_setMask_22)
abbrev rL_setHops : Room := { frames := 8, cells := 0, slots := 0, locals := 135 }
abbrev xL_setHops : Room := { frames := 8, cells := 1, slots := 6, locals := 135 }
set_option maxHeartbeats 4000000 in
set_option maxRecDepth 100000 in
theorem mL_setHops (l : Launch) (D : va_G) (cA cR cL cF : ClassId) (a0 : A10) (v0 : V10) (p1 : Int32) (p2 : Int32) (a1 : Nat) (f1 : Nat → Int64) (u : Int32 × V10) (hsp : sX10_setHops v0 p1 p2 = some (.inr u)) : ML_ l yL_setHops wsL_setHops rL_setHops D cA cR cL cF [.ref a0.1, .int p1, .int p2, .ref a1] [w10 cA cR a0 v0, [(a1, .inl (cL, 1, .inr (.inl f1)))]] (some (.int 0)) [w10 cA cR a0 u.2, [(a1, .inl (cL, 1, .inr (.inl (vp_updL f1 (0 : Int32).toNatClampNeg u.1.toInt64))))]] 0 0 := by
  refine ML_.ofW (cc := cL_setHops) (maxL := 5) (ret := some .int) (hh := [(0, 10, 13, 13)]) (by decide) rfl (Nat.le_of_ble_eq_true rfl) ?_
  intro p e s m args below meth c A ls Q H locs hx hb hr hlk hml hown hts hz hzl hA hzx hxt hQ hw hl
  have hl : lv_has ls 5 [(0, .ref a0.1), (1, .int p1), (2, .int p2), (3, .ref a1)] := hl
  have hw : ww A s.heap D [w10 cA cR a0 v0, [(a1, .inl (cL, 1, .inr (.inl f1)))]] H locs := hw
  refine lv_aload_n hx hb dL_setHops_0 rfl (lv_at hl 3 rfl) ?_
  refine lv_iconst (v := 0) hx hb dL_setHops_1 (by decide) ?_
  refine lv_aload_n hx hb dL_setHops_2 rfl (lv_at hl 0 rfl) ?_
  refine lv_iload_n hx hb dL_setHops_3 rfl (lv_at hl 1 rfl) ?_
  refine lv_iload_n hx hb dL_setHops_4 rfl (lv_at hl 2 rfl) ?_
  refine k_callV (ci := 10) (C := RX10) (T := TX10) (N := 7) (nA := 2) (As := [.int p1, .int p2]) (cs := [w10 cA cR a0 v0]) (rs := [[(a1, .inl (cL, 1, .inr (.inl f1)))]]) (cs1 := [w10 cA cR a0 u.2]) (bs1 := [w10 cA cR a0 u.2, [(a1, .inl (cL, 1, .inr (.inl f1)))]]) (rest := [.int (0 : Int32), .ref a1]) (st1 := [.int u.1, .int (0 : Int32), .ref a1]) ⟨hx, hb, hml, hown, hts⟩ hz hw hA (mX10_setHops l D cA cR a0 v0 p1 p2 u hsp) gL_setHops_X10_setHops rfl rfl rfl (by decide +kernel) rfl ⟨Nat.le_of_ble_eq_true rfl, Nat.le_of_ble_eq_true rfl⟩ rfl rfl hl.1 rfl (Nat.le_of_ble_eq_true rfl) dL_setHops_5 ⟨Nat.le_of_ble_eq_true rfl, Nat.le_of_ble_eq_true rfl⟩ [0] [1] [1, 0] rfl rfl rfl rfl rfl rfl (fun H locs hw => ?_)
  refine lv_i2l hx hb dL_setHops_8 rfl ?_
  refine k_last (bs1 := [w10 cA cR a0 u.2, [(a1, .inl (cL, 1, .inr (.inl (vp_updL f1 (0 : Int32).toNatClampNeg u.1.toInt64))))]]) hx hb hzl hw 1 rfl (by unfold vp_in; decide) dL_setHops_9 rfl (fun H locs hw => ?_)
  refine lv_goto (tgt := 17) hx hb dL_setHops_10 (by decide) ?_
  refine lv_iconst (v := 0) hx hb dL_setHops_17 (by decide) ?_
  subst hQ
  exact vx_ret (k_iret hx hb hr hlk hw dL_setHops_18)
set_option maxHeartbeats 4000000 in
set_option maxRecDepth 100000 in
theorem t0L_setHops (l : Launch) (hlt : l.stackTraces = false) (D : va_G) (cA cR cL cF : ClassId) (a0 : A10) (v0 : V10) (p1 : Int32) (p2 : Int32) (a1 : Nat) (f1 : Nat → Int64) (hsp : sX10_setHops v0 p1 p2 = some (.inl 0)) : ML_ l yL_setHops wsL_setHops xL_setHops D cA cR cL cF [.ref a0.1, .int p1, .int p2, .ref a1] [w10 cA cR a0 v0, [(a1, .inl (cL, 1, .inr (.inl f1)))]] (some (.int 1)) [w10 cA cR a0 v0, [(a1, .inl (cL, 1, .inr (.inl f1)))]] 1 6 := by
  refine ML_.ofW (cc := cL_setHops) (maxL := 5) (ret := some .int) (hh := [(0, 10, 13, 13)]) (by decide) rfl (Nat.le_of_ble_eq_true rfl) ?_
  intro p e s m args below meth c A ls Q H locs hx hb hr hlk hml hown hts hz hzl hA hzx hxt hQ hw hl
  have hl : lv_has ls 5 [(0, .ref a0.1), (1, .int p1), (2, .int p2), (3, .ref a1)] := hl
  have hw : ww A s.heap D [w10 cA cR a0 v0, [(a1, .inl (cL, 1, .inr (.inl f1)))]] H locs := hw
  refine lv_aload_n hx hb dL_setHops_0 rfl (lv_at hl 3 rfl) ?_
  refine lv_iconst (v := 0) hx hb dL_setHops_1 (by decide) ?_
  refine lv_aload_n hx hb dL_setHops_2 rfl (lv_at hl 0 rfl) ?_
  refine lv_iload_n hx hb dL_setHops_3 rfl (lv_at hl 1 rfl) ?_
  refine lv_iload_n hx hb dL_setHops_4 rfl (lv_at hl 2 rfl) ?_
  refine k_xt (cs := [w10 cA cR a0 v0]) (rs := [[(a1, .inl (cL, 1, .inr (.inl f1)))]]) (rest := [.int (0 : Int32), .ref a1]) hw hA [0] [1] [1, 0] rfl rfl rfl rfl rfl (k_runVX (ci := 10) (C := RX10) (T := TX10) (N := 7) (nA := 2) (As := [.int p1, .int p2]) (cs := [w10 cA cR a0 v0]) (rs := [[(a1, .inl (cL, 1, .inr (.inl f1)))]]) (rest := [.int (0 : Int32), .ref a1]) ⟨hx, hb, hml, hown, hts⟩ hz hzx hw hA (tX10_setHops l hlt D cA cR a0 v0 p1 p2 0 hsp) gL_setHops_X10_setHops rfl rfl rfl (by decide +kernel) rfl ⟨Nat.le_of_ble_eq_true rfl, Nat.le_of_ble_eq_true rfl⟩ rfl rfl hl.1 rfl (Nat.le_of_ble_eq_true rfl) dL_setHops_5 ⟨Nat.le_of_ble_eq_true rfl, Nat.le_of_ble_eq_true rfl⟩ [0] [1] rfl rfl rfl) (fun H locs q ce hw h1 h2 h3 => ?_)
  refine k_catch (k := 0) (pre := []) (x := ⟨0, 10, 13, 13⟩) (suf := []) hts hown hzx (by rw [hxt]; rfl) (by decide) (fun z hz => absurd hz List.not_mem_nil) (by decide) (by decide) (by decide +kernel) h1 h2 h3 ?_
  refine lv_astore (lv' := [(4, .ref q), (0, .ref a0.1), (1, .int p1), (2, .int p2), (3, .ref a1)]) hx hb dL_setHops_13 hl (by decide) rfl (fun ls hl => ?_)
  refine lv_iconst (v := 1) hx hb dL_setHops_15 (by decide) ?_
  subst hQ
  exact vx_ret (k_iret hx hb hr hlk hw dL_setHops_16)
abbrev rL_append : Room := { frames := 8, cells := 0, slots := 0, locals := 133 }
abbrev xL_append : Room := { frames := 8, cells := 1, slots := 6, locals := 133 }
set_option maxHeartbeats 4000000 in
set_option maxRecDepth 100000 in
theorem mL_append (l : Launch) (D : va_G) (cA cR cL cF : ClassId) (a0 : A10) (v0 : V10) (p1 : Int32) (a1 : Nat) (f1 : Nat → Int64) (u : Int32 × V10) (hsp : sX10_append v0 p1 = some (.inr u)) : ML_ l yL_append wsL_append rL_append D cA cR cL cF [.ref a0.1, .int p1, .ref a1] [w10 cA cR a0 v0, [(a1, .inl (cL, 1, .inr (.inl f1)))]] (some (.int 0)) [w10 cA cR a0 u.2, [(a1, .inl (cL, 1, .inr (.inl (vp_updL f1 (0 : Int32).toNatClampNeg u.1.toInt64))))]] 0 0 := by
  refine ML_.ofW (cc := cL_append) (maxL := 4) (ret := some .int) (hh := [(0, 9, 12, 13), (0, 9, 15, 15)]) (by decide) rfl (Nat.le_of_ble_eq_true rfl) ?_
  intro p e s m args below meth c A ls Q H locs hx hb hr hlk hml hown hts hz hzl hA hzx hxt hQ hw hl
  have hl : lv_has ls 4 [(0, .ref a0.1), (1, .int p1), (2, .ref a1)] := hl
  have hw : ww A s.heap D [w10 cA cR a0 v0, [(a1, .inl (cL, 1, .inr (.inl f1)))]] H locs := hw
  refine lv_aload_n hx hb dL_append_0 rfl (lv_at hl 2 rfl) ?_
  refine lv_iconst (v := 0) hx hb dL_append_1 (by decide) ?_
  refine lv_aload_n hx hb dL_append_2 rfl (lv_at hl 0 rfl) ?_
  refine lv_iload_n hx hb dL_append_3 rfl (lv_at hl 1 rfl) ?_
  refine k_callV (ci := 10) (C := RX10) (T := TX10) (N := 7) (nA := 1) (As := [.int p1]) (cs := [w10 cA cR a0 v0]) (rs := [[(a1, .inl (cL, 1, .inr (.inl f1)))]]) (cs1 := [w10 cA cR a0 u.2]) (bs1 := [w10 cA cR a0 u.2, [(a1, .inl (cL, 1, .inr (.inl f1)))]]) (rest := [.int (0 : Int32), .ref a1]) (st1 := [.int u.1, .int (0 : Int32), .ref a1]) ⟨hx, hb, hml, hown, hts⟩ hz hw hA (mX10_append l D cA cR a0 v0 p1 u hsp) gL_append_X10_append rfl rfl rfl (by decide +kernel) rfl ⟨Nat.le_of_ble_eq_true rfl, Nat.le_of_ble_eq_true rfl⟩ rfl rfl hl.1 rfl (Nat.le_of_ble_eq_true rfl) dL_append_4 ⟨Nat.le_of_ble_eq_true rfl, Nat.le_of_ble_eq_true rfl⟩ [0] [1] [1, 0] rfl rfl rfl rfl rfl rfl (fun H locs hw => ?_)
  refine lv_i2l hx hb dL_append_7 rfl ?_
  refine k_last (bs1 := [w10 cA cR a0 u.2, [(a1, .inl (cL, 1, .inr (.inl (vp_updL f1 (0 : Int32).toNatClampNeg u.1.toInt64))))]]) hx hb hzl hw 1 rfl (by unfold vp_in; decide) dL_append_8 rfl (fun H locs hw => ?_)
  refine lv_goto (tgt := 18) hx hb dL_append_9 (by decide) ?_
  refine lv_iconst (v := 0) hx hb dL_append_18 (by decide) ?_
  subst hQ
  exact vx_ret (k_iret hx hb hr hlk hw dL_append_19)
set_option maxHeartbeats 4000000 in
set_option maxRecDepth 100000 in
theorem t0L_append (l : Launch) (hlt : l.stackTraces = false) (D : va_G) (cA cR cL cF : ClassId) (a0 : A10) (v0 : V10) (p1 : Int32) (a1 : Nat) (f1 : Nat → Int64) (hsp : sX10_append v0 p1 = some (.inl 0)) : ML_ l yL_append wsL_append xL_append D cA cR cL cF [.ref a0.1, .int p1, .ref a1] [w10 cA cR a0 v0, [(a1, .inl (cL, 1, .inr (.inl f1)))]] (some (.int 1)) [w10 cA cR a0 v0, [(a1, .inl (cL, 1, .inr (.inl f1)))]] 1 6 := by
  refine ML_.ofW (cc := cL_append) (maxL := 4) (ret := some .int) (hh := [(0, 9, 12, 13), (0, 9, 15, 15)]) (by decide) rfl (Nat.le_of_ble_eq_true rfl) ?_
  intro p e s m args below meth c A ls Q H locs hx hb hr hlk hml hown hts hz hzl hA hzx hxt hQ hw hl
  have hl : lv_has ls 4 [(0, .ref a0.1), (1, .int p1), (2, .ref a1)] := hl
  have hw : ww A s.heap D [w10 cA cR a0 v0, [(a1, .inl (cL, 1, .inr (.inl f1)))]] H locs := hw
  refine lv_aload_n hx hb dL_append_0 rfl (lv_at hl 2 rfl) ?_
  refine lv_iconst (v := 0) hx hb dL_append_1 (by decide) ?_
  refine lv_aload_n hx hb dL_append_2 rfl (lv_at hl 0 rfl) ?_
  refine lv_iload_n hx hb dL_append_3 rfl (lv_at hl 1 rfl) ?_
  refine k_xt (cs := [w10 cA cR a0 v0]) (rs := [[(a1, .inl (cL, 1, .inr (.inl f1)))]]) (rest := [.int (0 : Int32), .ref a1]) hw hA [0] [1] [1, 0] rfl rfl rfl rfl rfl (k_runVX (ci := 10) (C := RX10) (T := TX10) (N := 7) (nA := 1) (As := [.int p1]) (cs := [w10 cA cR a0 v0]) (rs := [[(a1, .inl (cL, 1, .inr (.inl f1)))]]) (rest := [.int (0 : Int32), .ref a1]) ⟨hx, hb, hml, hown, hts⟩ hz hzx hw hA (tX10_append l hlt D cA cR a0 v0 p1 0 hsp) gL_append_X10_append rfl rfl rfl (by decide +kernel) rfl ⟨Nat.le_of_ble_eq_true rfl, Nat.le_of_ble_eq_true rfl⟩ rfl rfl hl.1 rfl (Nat.le_of_ble_eq_true rfl) dL_append_4 ⟨Nat.le_of_ble_eq_true rfl, Nat.le_of_ble_eq_true rfl⟩ [0] [1] rfl rfl rfl) (fun H locs q ce hw h1 h2 h3 => ?_)
  refine k_catch (k := 0) (pre := []) (x := ⟨0, 9, 12, 13⟩) (suf := [⟨0, 9, 15, 15⟩]) hts hown hzx (by rw [hxt]; rfl) (by decide) (fun z hz => absurd hz List.not_mem_nil) (by decide) (by decide) (by decide +kernel) h1 h2 h3 ?_
  refine lv_astore_n (lv' := [(3, .ref q), (0, .ref a0.1), (1, .int p1), (2, .ref a1)]) hx hb dL_append_12 rfl hl (by decide) rfl (fun ls hl => ?_)
  refine lv_iconst (v := 1) hx hb dL_append_13 (by decide) ?_
  subst hQ
  exact vx_ret (k_iret hx hb hr hlk hw dL_append_14)
set_option maxHeartbeats 4000000 in
set_option maxRecDepth 100000 in
theorem t1L_append (l : Launch) (hlt : l.stackTraces = false) (D : va_G) (cA cR cL cF : ClassId) (a0 : A10) (v0 : V10) (p1 : Int32) (a1 : Nat) (f1 : Nat → Int64) (hsp : sX10_append v0 p1 = some (.inl 1)) : ML_ l yL_append wsL_append xL_append D cA cR cL cF [.ref a0.1, .int p1, .ref a1] [w10 cA cR a0 v0, [(a1, .inl (cL, 1, .inr (.inl f1)))]] (some (.int 2)) [w10 cA cR a0 v0, [(a1, .inl (cL, 1, .inr (.inl f1)))]] 1 6 := by
  refine ML_.ofW (cc := cL_append) (maxL := 4) (ret := some .int) (hh := [(0, 9, 12, 13), (0, 9, 15, 15)]) (by decide) rfl (Nat.le_of_ble_eq_true rfl) ?_
  intro p e s m args below meth c A ls Q H locs hx hb hr hlk hml hown hts hz hzl hA hzx hxt hQ hw hl
  have hl : lv_has ls 4 [(0, .ref a0.1), (1, .int p1), (2, .ref a1)] := hl
  have hw : ww A s.heap D [w10 cA cR a0 v0, [(a1, .inl (cL, 1, .inr (.inl f1)))]] H locs := hw
  refine lv_aload_n hx hb dL_append_0 rfl (lv_at hl 2 rfl) ?_
  refine lv_iconst (v := 0) hx hb dL_append_1 (by decide) ?_
  refine lv_aload_n hx hb dL_append_2 rfl (lv_at hl 0 rfl) ?_
  refine lv_iload_n hx hb dL_append_3 rfl (lv_at hl 1 rfl) ?_
  refine k_xt (cs := [w10 cA cR a0 v0]) (rs := [[(a1, .inl (cL, 1, .inr (.inl f1)))]]) (rest := [.int (0 : Int32), .ref a1]) hw hA [0] [1] [1, 0] rfl rfl rfl rfl rfl (k_runVX (ci := 10) (C := RX10) (T := TX10) (N := 7) (nA := 1) (As := [.int p1]) (cs := [w10 cA cR a0 v0]) (rs := [[(a1, .inl (cL, 1, .inr (.inl f1)))]]) (rest := [.int (0 : Int32), .ref a1]) ⟨hx, hb, hml, hown, hts⟩ hz hzx hw hA (tX10_append l hlt D cA cR a0 v0 p1 1 hsp) gL_append_X10_append rfl rfl rfl (by decide +kernel) rfl ⟨Nat.le_of_ble_eq_true rfl, Nat.le_of_ble_eq_true rfl⟩ rfl rfl hl.1 rfl (Nat.le_of_ble_eq_true rfl) dL_append_4 ⟨Nat.le_of_ble_eq_true rfl, Nat.le_of_ble_eq_true rfl⟩ [0] [1] rfl rfl rfl) (fun H locs q ce hw h1 h2 h3 => ?_)
  refine k_catch (k := 1) (pre := [⟨0, 9, 12, 13⟩]) (x := ⟨0, 9, 15, 15⟩) (suf := []) hts hown hzx (by rw [hxt]; rfl) (by decide) (fun z hz => by rcases List.mem_singleton.mp hz with rfl; exact ⟨by decide, 0, by decide, by decide, by decide +kernel⟩) (by decide) (by decide) (by decide +kernel) h1 h2 h3 ?_
  refine lv_astore_n (lv' := [(3, .ref q), (0, .ref a0.1), (1, .int p1), (2, .ref a1)]) hx hb dL_append_15 rfl hl (by decide) rfl (fun ls hl => ?_)
  refine lv_iconst (v := 2) hx hb dL_append_16 (by decide) ?_
  subst hQ
  exact vx_ret (k_iret hx hb hr hlk hw dL_append_17)
abbrev rL_step : Room := { frames := 8, cells := 0, slots := 0, locals := 134 }
abbrev xL_step : Room := { frames := 8, cells := 1, slots := 6, locals := 134 }
set_option maxHeartbeats 4000000 in
set_option maxRecDepth 100000 in
theorem mL_step (l : Launch) (D : va_G) (cA cR cL cF : ClassId) (a0 : A10) (v0 : V10) (p1 : Int32) (p2 : Int32) (a1 : Nat) (f1 : Nat → Int64) (u : Int32) (hsp : sX10_step v0 p1 p2 = some (.inr u)) : ML_ l yL_step wsL_step rL_step D cA cR cL cF [.ref a0.1, .int p1, .int p2, .ref a1] [w10 cA cR a0 v0, [(a1, .inl (cL, 1, .inr (.inl f1)))]] (some (.int 0)) [w10 cA cR a0 v0, [(a1, .inl (cL, 1, .inr (.inl (vp_updL f1 (0 : Int32).toNatClampNeg u.toInt64))))]] 0 0 := by
  refine ML_.ofW (cc := cL_step) (maxL := 5) (ret := some .int) (hh := [(0, 10, 13, 24), (0, 10, 17, 13)]) (by decide) rfl (Nat.le_of_ble_eq_true rfl) ?_
  intro p e s m args below meth c A ls Q H locs hx hb hr hlk hml hown hts hz hzl hA hzx hxt hQ hw hl
  have hl : lv_has ls 5 [(0, .ref a0.1), (1, .int p1), (2, .int p2), (3, .ref a1)] := hl
  have hw : ww A s.heap D [w10 cA cR a0 v0, [(a1, .inl (cL, 1, .inr (.inl f1)))]] H locs := hw
  refine lv_aload_n hx hb dL_step_0 rfl (lv_at hl 3 rfl) ?_
  refine lv_iconst (v := 0) hx hb dL_step_1 (by decide) ?_
  refine lv_aload_n hx hb dL_step_2 rfl (lv_at hl 0 rfl) ?_
  refine lv_iload_n hx hb dL_step_3 rfl (lv_at hl 1 rfl) ?_
  refine lv_iload_n hx hb dL_step_4 rfl (lv_at hl 2 rfl) ?_
  refine k_callV (ci := 10) (C := RX10) (T := TX10) (N := 7) (nA := 2) (As := [.int p1, .int p2]) (cs := [w10 cA cR a0 v0]) (rs := [[(a1, .inl (cL, 1, .inr (.inl f1)))]]) (cs1 := [w10 cA cR a0 v0]) (bs1 := [w10 cA cR a0 v0, [(a1, .inl (cL, 1, .inr (.inl f1)))]]) (rest := [.int (0 : Int32), .ref a1]) (st1 := [.int u, .int (0 : Int32), .ref a1]) ⟨hx, hb, hml, hown, hts⟩ hz hw hA (mX10_step l D cA cR a0 v0 p1 p2 u hsp) gL_step_X10_step rfl rfl rfl (by decide +kernel) rfl ⟨Nat.le_of_ble_eq_true rfl, Nat.le_of_ble_eq_true rfl⟩ rfl rfl hl.1 rfl (Nat.le_of_ble_eq_true rfl) dL_step_5 ⟨Nat.le_of_ble_eq_true rfl, Nat.le_of_ble_eq_true rfl⟩ [0] [1] [1, 0] rfl rfl rfl rfl rfl rfl (fun H locs hw => ?_)
  refine lv_i2l hx hb dL_step_8 rfl ?_
  refine k_last (bs1 := [w10 cA cR a0 v0, [(a1, .inl (cL, 1, .inr (.inl (vp_updL f1 (0 : Int32).toNatClampNeg u.toInt64))))]]) hx hb hzl hw 1 rfl (by unfold vp_in; decide) dL_step_9 rfl (fun H locs hw => ?_)
  refine lv_goto (tgt := 21) hx hb dL_step_10 (by decide) ?_
  refine lv_iconst (v := 0) hx hb dL_step_21 (by decide) ?_
  subst hQ
  exact vx_ret (k_iret hx hb hr hlk hw dL_step_22)
set_option maxHeartbeats 4000000 in
set_option maxRecDepth 100000 in
theorem t0L_step (l : Launch) (hlt : l.stackTraces = false) (D : va_G) (cA cR cL cF : ClassId) (a0 : A10) (v0 : V10) (p1 : Int32) (p2 : Int32) (a1 : Nat) (f1 : Nat → Int64) (hsp : sX10_step v0 p1 p2 = some (.inl 2)) : ML_ l yL_step wsL_step xL_step D cA cR cL cF [.ref a0.1, .int p1, .int p2, .ref a1] [w10 cA cR a0 v0, [(a1, .inl (cL, 1, .inr (.inl f1)))]] (some (.int 1)) [w10 cA cR a0 v0, [(a1, .inl (cL, 1, .inr (.inl f1)))]] 1 6 := by
  refine ML_.ofW (cc := cL_step) (maxL := 5) (ret := some .int) (hh := [(0, 10, 13, 24), (0, 10, 17, 13)]) (by decide) rfl (Nat.le_of_ble_eq_true rfl) ?_
  intro p e s m args below meth c A ls Q H locs hx hb hr hlk hml hown hts hz hzl hA hzx hxt hQ hw hl
  have hl : lv_has ls 5 [(0, .ref a0.1), (1, .int p1), (2, .int p2), (3, .ref a1)] := hl
  have hw : ww A s.heap D [w10 cA cR a0 v0, [(a1, .inl (cL, 1, .inr (.inl f1)))]] H locs := hw
  refine lv_aload_n hx hb dL_step_0 rfl (lv_at hl 3 rfl) ?_
  refine lv_iconst (v := 0) hx hb dL_step_1 (by decide) ?_
  refine lv_aload_n hx hb dL_step_2 rfl (lv_at hl 0 rfl) ?_
  refine lv_iload_n hx hb dL_step_3 rfl (lv_at hl 1 rfl) ?_
  refine lv_iload_n hx hb dL_step_4 rfl (lv_at hl 2 rfl) ?_
  refine k_xt (cs := [w10 cA cR a0 v0]) (rs := [[(a1, .inl (cL, 1, .inr (.inl f1)))]]) (rest := [.int (0 : Int32), .ref a1]) hw hA [0] [1] [1, 0] rfl rfl rfl rfl rfl (k_runVX (ci := 10) (C := RX10) (T := TX10) (N := 7) (nA := 2) (As := [.int p1, .int p2]) (cs := [w10 cA cR a0 v0]) (rs := [[(a1, .inl (cL, 1, .inr (.inl f1)))]]) (rest := [.int (0 : Int32), .ref a1]) ⟨hx, hb, hml, hown, hts⟩ hz hzx hw hA (tX10_step l hlt D cA cR a0 v0 p1 p2 2 hsp) gL_step_X10_step rfl rfl rfl (by decide +kernel) rfl ⟨Nat.le_of_ble_eq_true rfl, Nat.le_of_ble_eq_true rfl⟩ rfl rfl hl.1 rfl (Nat.le_of_ble_eq_true rfl) dL_step_5 ⟨Nat.le_of_ble_eq_true rfl, Nat.le_of_ble_eq_true rfl⟩ [0] [1] rfl rfl rfl) (fun H locs q ce hw h1 h2 h3 => ?_)
  refine k_catch (k := 2) (pre := []) (x := ⟨0, 10, 13, 24⟩) (suf := [⟨0, 10, 17, 13⟩]) hts hown hzx (by rw [hxt]; rfl) (by decide) (fun z hz => absurd hz List.not_mem_nil) (by decide) (by decide) (by decide +kernel) h1 h2 h3 ?_
  refine lv_astore (lv' := [(4, .ref q), (0, .ref a0.1), (1, .int p1), (2, .int p2), (3, .ref a1)]) hx hb dL_step_13 hl (by decide) rfl (fun ls hl => ?_)
  refine lv_iconst (v := 1) hx hb dL_step_15 (by decide) ?_
  subst hQ
  exact vx_ret (k_iret hx hb hr hlk hw dL_step_16)
set_option maxHeartbeats 4000000 in
set_option maxRecDepth 100000 in
theorem t1L_step (l : Launch) (hlt : l.stackTraces = false) (D : va_G) (cA cR cL cF : ClassId) (a0 : A10) (v0 : V10) (p1 : Int32) (p2 : Int32) (a1 : Nat) (f1 : Nat → Int64) (hsp : sX10_step v0 p1 p2 = some (.inl 0)) : ML_ l yL_step wsL_step xL_step D cA cR cL cF [.ref a0.1, .int p1, .int p2, .ref a1] [w10 cA cR a0 v0, [(a1, .inl (cL, 1, .inr (.inl f1)))]] (some (.int 2)) [w10 cA cR a0 v0, [(a1, .inl (cL, 1, .inr (.inl f1)))]] 1 6 := by
  refine ML_.ofW (cc := cL_step) (maxL := 5) (ret := some .int) (hh := [(0, 10, 13, 24), (0, 10, 17, 13)]) (by decide) rfl (Nat.le_of_ble_eq_true rfl) ?_
  intro p e s m args below meth c A ls Q H locs hx hb hr hlk hml hown hts hz hzl hA hzx hxt hQ hw hl
  have hl : lv_has ls 5 [(0, .ref a0.1), (1, .int p1), (2, .int p2), (3, .ref a1)] := hl
  have hw : ww A s.heap D [w10 cA cR a0 v0, [(a1, .inl (cL, 1, .inr (.inl f1)))]] H locs := hw
  refine lv_aload_n hx hb dL_step_0 rfl (lv_at hl 3 rfl) ?_
  refine lv_iconst (v := 0) hx hb dL_step_1 (by decide) ?_
  refine lv_aload_n hx hb dL_step_2 rfl (lv_at hl 0 rfl) ?_
  refine lv_iload_n hx hb dL_step_3 rfl (lv_at hl 1 rfl) ?_
  refine lv_iload_n hx hb dL_step_4 rfl (lv_at hl 2 rfl) ?_
  refine k_xt (cs := [w10 cA cR a0 v0]) (rs := [[(a1, .inl (cL, 1, .inr (.inl f1)))]]) (rest := [.int (0 : Int32), .ref a1]) hw hA [0] [1] [1, 0] rfl rfl rfl rfl rfl (k_runVX (ci := 10) (C := RX10) (T := TX10) (N := 7) (nA := 2) (As := [.int p1, .int p2]) (cs := [w10 cA cR a0 v0]) (rs := [[(a1, .inl (cL, 1, .inr (.inl f1)))]]) (rest := [.int (0 : Int32), .ref a1]) ⟨hx, hb, hml, hown, hts⟩ hz hzx hw hA (tX10_step l hlt D cA cR a0 v0 p1 p2 0 hsp) gL_step_X10_step rfl rfl rfl (by decide +kernel) rfl ⟨Nat.le_of_ble_eq_true rfl, Nat.le_of_ble_eq_true rfl⟩ rfl rfl hl.1 rfl (Nat.le_of_ble_eq_true rfl) dL_step_5 ⟨Nat.le_of_ble_eq_true rfl, Nat.le_of_ble_eq_true rfl⟩ [0] [1] rfl rfl rfl) (fun H locs q ce hw h1 h2 h3 => ?_)
  refine k_catch (k := 0) (pre := [⟨0, 10, 13, 24⟩]) (x := ⟨0, 10, 17, 13⟩) (suf := []) hts hown hzx (by rw [hxt]; rfl) (by decide) (fun z hz => by rcases List.mem_singleton.mp hz with rfl; exact ⟨by decide, 2, by decide, by decide, by decide +kernel⟩) (by decide) (by decide) (by decide +kernel) h1 h2 h3 ?_
  refine lv_astore (lv' := [(4, .ref q), (0, .ref a0.1), (1, .int p1), (2, .int p2), (3, .ref a1)]) hx hb dL_step_17 hl (by decide) rfl (fun ls hl => ?_)
  refine lv_iconst (v := 2) hx hb dL_step_19 (by decide) ?_
  subst hQ
  exact vx_ret (k_iret hx hb hr hlk hw dL_step_20)
abbrev rL_planByte : Room := { frames := 7, cells := 0, slots := 0, locals := 111 }
abbrev xL_planByte : Room := { frames := 7, cells := 1, slots := 6, locals := 111 }
set_option maxHeartbeats 4000000 in
set_option maxRecDepth 100000 in
theorem mL_planByte (l : Launch) (D : va_G) (cA cR cL cF : ClassId) (N : Nat) (a0 : A10) (v0 : V10) (p1 : Int32) (a1 : Nat) (f1 : Nat → Int64) (u : Int32 × V10) (hsp : sX10_planByte N v0 p1 = some (.inr u)) : ML_ l yL_planByte wsL_planByte rL_planByte D cA cR cL cF [.ref a0.1, .int p1, .ref a1] [w10 cA cR a0 v0, [(a1, .inl (cL, 1, .inr (.inl f1)))]] (some (.int 0)) [w10 cA cR a0 u.2, [(a1, .inl (cL, 1, .inr (.inl (vp_updL f1 (0 : Int32).toNatClampNeg u.1.toInt64))))]] 0 0 := by
  refine ML_.ofW (cc := cL_planByte) (maxL := 4) (ret := some .int) (hh := [(0, 9, 12, 13)]) (by decide) rfl (Nat.le_of_ble_eq_true rfl) ?_
  intro p e s m args below meth c A ls Q H locs hx hb hr hlk hml hown hts hz hzl hA hzx hxt hQ hw hl
  have hl : lv_has ls 4 [(0, .ref a0.1), (1, .int p1), (2, .ref a1)] := hl
  have hw : ww A s.heap D [w10 cA cR a0 v0, [(a1, .inl (cL, 1, .inr (.inl f1)))]] H locs := hw
  refine lv_aload_n hx hb dL_planByte_0 rfl (lv_at hl 2 rfl) ?_
  refine lv_iconst (v := 0) hx hb dL_planByte_1 (by decide) ?_
  refine lv_aload_n hx hb dL_planByte_2 rfl (lv_at hl 0 rfl) ?_
  refine lv_iload_n hx hb dL_planByte_3 rfl (lv_at hl 1 rfl) ?_
  refine k_callV (ci := 10) (C := RX10) (T := TX10) (N := 7) (nA := 1) (As := [.int p1]) (cs := [w10 cA cR a0 v0]) (rs := [[(a1, .inl (cL, 1, .inr (.inl f1)))]]) (cs1 := [w10 cA cR a0 u.2]) (bs1 := [w10 cA cR a0 u.2, [(a1, .inl (cL, 1, .inr (.inl f1)))]]) (rest := [.int (0 : Int32), .ref a1]) (st1 := [.int u.1, .int (0 : Int32), .ref a1]) ⟨hx, hb, hml, hown, hts⟩ hz hw hA (mX10_planByte l D cA cR N a0 v0 p1 u hsp) gL_planByte_X10_planByte rfl rfl rfl (by decide +kernel) rfl ⟨Nat.le_of_ble_eq_true rfl, Nat.le_of_ble_eq_true rfl⟩ rfl rfl hl.1 rfl (Nat.le_of_ble_eq_true rfl) dL_planByte_4 ⟨Nat.le_of_ble_eq_true rfl, Nat.le_of_ble_eq_true rfl⟩ [0] [1] [1, 0] rfl rfl rfl rfl rfl rfl (fun H locs hw => ?_)
  refine lv_i2l hx hb dL_planByte_7 rfl ?_
  refine k_last (bs1 := [w10 cA cR a0 u.2, [(a1, .inl (cL, 1, .inr (.inl (vp_updL f1 (0 : Int32).toNatClampNeg u.1.toInt64))))]]) hx hb hzl hw 1 rfl (by unfold vp_in; decide) dL_planByte_8 rfl (fun H locs hw => ?_)
  refine lv_goto (tgt := 15) hx hb dL_planByte_9 (by decide) ?_
  refine lv_iconst (v := 0) hx hb dL_planByte_15 (by decide) ?_
  subst hQ
  exact vx_ret (k_iret hx hb hr hlk hw dL_planByte_16)
set_option maxHeartbeats 4000000 in
set_option maxRecDepth 100000 in
theorem t0L_planByte (l : Launch) (hlt : l.stackTraces = false) (D : va_G) (cA cR cL cF : ClassId) (N : Nat) (a0 : A10) (v0 : V10) (p1 : Int32) (a1 : Nat) (f1 : Nat → Int64) (hsp : sX10_planByte N v0 p1 = some (.inl 0)) : ML_ l yL_planByte wsL_planByte xL_planByte D cA cR cL cF [.ref a0.1, .int p1, .ref a1] [w10 cA cR a0 v0, [(a1, .inl (cL, 1, .inr (.inl f1)))]] (some (.int 1)) [w10 cA cR a0 v0, [(a1, .inl (cL, 1, .inr (.inl f1)))]] 1 6 := by
  refine ML_.ofW (cc := cL_planByte) (maxL := 4) (ret := some .int) (hh := [(0, 9, 12, 13)]) (by decide) rfl (Nat.le_of_ble_eq_true rfl) ?_
  intro p e s m args below meth c A ls Q H locs hx hb hr hlk hml hown hts hz hzl hA hzx hxt hQ hw hl
  have hl : lv_has ls 4 [(0, .ref a0.1), (1, .int p1), (2, .ref a1)] := hl
  have hw : ww A s.heap D [w10 cA cR a0 v0, [(a1, .inl (cL, 1, .inr (.inl f1)))]] H locs := hw
  refine lv_aload_n hx hb dL_planByte_0 rfl (lv_at hl 2 rfl) ?_
  refine lv_iconst (v := 0) hx hb dL_planByte_1 (by decide) ?_
  refine lv_aload_n hx hb dL_planByte_2 rfl (lv_at hl 0 rfl) ?_
  refine lv_iload_n hx hb dL_planByte_3 rfl (lv_at hl 1 rfl) ?_
  refine k_xt (cs := [w10 cA cR a0 v0]) (rs := [[(a1, .inl (cL, 1, .inr (.inl f1)))]]) (rest := [.int (0 : Int32), .ref a1]) hw hA [0] [1] [1, 0] rfl rfl rfl rfl rfl (k_runVX (ci := 10) (C := RX10) (T := TX10) (N := 7) (nA := 1) (As := [.int p1]) (cs := [w10 cA cR a0 v0]) (rs := [[(a1, .inl (cL, 1, .inr (.inl f1)))]]) (rest := [.int (0 : Int32), .ref a1]) ⟨hx, hb, hml, hown, hts⟩ hz hzx hw hA (tX10_planByte l hlt D cA cR N a0 v0 p1 0 hsp) gL_planByte_X10_planByte rfl rfl rfl (by decide +kernel) rfl ⟨Nat.le_of_ble_eq_true rfl, Nat.le_of_ble_eq_true rfl⟩ rfl rfl hl.1 rfl (Nat.le_of_ble_eq_true rfl) dL_planByte_4 ⟨Nat.le_of_ble_eq_true rfl, Nat.le_of_ble_eq_true rfl⟩ [0] [1] rfl rfl rfl) (fun H locs q ce hw h1 h2 h3 => ?_)
  refine k_catch (k := 0) (pre := []) (x := ⟨0, 9, 12, 13⟩) (suf := []) hts hown hzx (by rw [hxt]; rfl) (by decide) (fun z hz => absurd hz List.not_mem_nil) (by decide) (by decide) (by decide +kernel) h1 h2 h3 ?_
  refine lv_astore_n (lv' := [(3, .ref q), (0, .ref a0.1), (1, .int p1), (2, .ref a1)]) hx hb dL_planByte_12 rfl hl (by decide) rfl (fun ls hl => ?_)
  refine lv_iconst (v := 1) hx hb dL_planByte_13 (by decide) ?_
  subst hQ
  exact vx_ret (k_iret hx hb hr hlk hw dL_planByte_14)
abbrev rL_revisit : Room := { frames := 8, cells := 0, slots := 0, locals := 132 }
abbrev xL_revisit : Room := { frames := 8, cells := 1, slots := 6, locals := 132 }
set_option maxHeartbeats 4000000 in
set_option maxRecDepth 100000 in
theorem mL_revisit (l : Launch) (D : va_G) (cA cR cL cF : ClassId) (N : Nat) (a0 : A10) (v0 : V10) (p1 : Int32) (a1 : Nat) (f1 : Nat → Int64) (u : Int32) (hsp : sX10_revisit N v0 p1 = some (.inr u)) : ML_ l yL_revisit wsL_revisit rL_revisit D cA cR cL cF [.ref a0.1, .int p1, .ref a1] [w10 cA cR a0 v0, [(a1, .inl (cL, 1, .inr (.inl f1)))]] (some (.int 0)) [w10 cA cR a0 v0, [(a1, .inl (cL, 1, .inr (.inl (vp_updL f1 (0 : Int32).toNatClampNeg u.toInt64))))]] 0 0 := by
  refine ML_.ofW (cc := cL_revisit) (maxL := 4) (ret := some .int) (hh := [(0, 9, 12, 24)]) (by decide) rfl (Nat.le_of_ble_eq_true rfl) ?_
  intro p e s m args below meth c A ls Q H locs hx hb hr hlk hml hown hts hz hzl hA hzx hxt hQ hw hl
  have hl : lv_has ls 4 [(0, .ref a0.1), (1, .int p1), (2, .ref a1)] := hl
  have hw : ww A s.heap D [w10 cA cR a0 v0, [(a1, .inl (cL, 1, .inr (.inl f1)))]] H locs := hw
  refine lv_aload_n hx hb dL_revisit_0 rfl (lv_at hl 2 rfl) ?_
  refine lv_iconst (v := 0) hx hb dL_revisit_1 (by decide) ?_
  refine lv_aload_n hx hb dL_revisit_2 rfl (lv_at hl 0 rfl) ?_
  refine lv_iload_n hx hb dL_revisit_3 rfl (lv_at hl 1 rfl) ?_
  refine k_callV (ci := 10) (C := RX10) (T := TX10) (N := 7) (nA := 1) (As := [.int p1]) (cs := [w10 cA cR a0 v0]) (rs := [[(a1, .inl (cL, 1, .inr (.inl f1)))]]) (cs1 := [w10 cA cR a0 v0]) (bs1 := [w10 cA cR a0 v0, [(a1, .inl (cL, 1, .inr (.inl f1)))]]) (rest := [.int (0 : Int32), .ref a1]) (st1 := [.int u, .int (0 : Int32), .ref a1]) ⟨hx, hb, hml, hown, hts⟩ hz hw hA (mX10_revisit l D cA cR N a0 v0 p1 u hsp) gL_revisit_X10_revisit rfl rfl rfl (by decide +kernel) rfl ⟨Nat.le_of_ble_eq_true rfl, Nat.le_of_ble_eq_true rfl⟩ rfl rfl hl.1 rfl (Nat.le_of_ble_eq_true rfl) dL_revisit_4 ⟨Nat.le_of_ble_eq_true rfl, Nat.le_of_ble_eq_true rfl⟩ [0] [1] [1, 0] rfl rfl rfl rfl rfl rfl (fun H locs hw => ?_)
  refine lv_i2l hx hb dL_revisit_7 rfl ?_
  refine k_last (bs1 := [w10 cA cR a0 v0, [(a1, .inl (cL, 1, .inr (.inl (vp_updL f1 (0 : Int32).toNatClampNeg u.toInt64))))]]) hx hb hzl hw 1 rfl (by unfold vp_in; decide) dL_revisit_8 rfl (fun H locs hw => ?_)
  refine lv_goto (tgt := 15) hx hb dL_revisit_9 (by decide) ?_
  refine lv_iconst (v := 0) hx hb dL_revisit_15 (by decide) ?_
  subst hQ
  exact vx_ret (k_iret hx hb hr hlk hw dL_revisit_16)
set_option maxHeartbeats 4000000 in
set_option maxRecDepth 100000 in
theorem t0L_revisit (l : Launch) (hlt : l.stackTraces = false) (D : va_G) (cA cR cL cF : ClassId) (N : Nat) (a0 : A10) (v0 : V10) (p1 : Int32) (a1 : Nat) (f1 : Nat → Int64) (hsp : sX10_revisit N v0 p1 = some (.inl 2)) : ML_ l yL_revisit wsL_revisit xL_revisit D cA cR cL cF [.ref a0.1, .int p1, .ref a1] [w10 cA cR a0 v0, [(a1, .inl (cL, 1, .inr (.inl f1)))]] (some (.int 1)) [w10 cA cR a0 v0, [(a1, .inl (cL, 1, .inr (.inl f1)))]] 1 6 := by
  refine ML_.ofW (cc := cL_revisit) (maxL := 4) (ret := some .int) (hh := [(0, 9, 12, 24)]) (by decide) rfl (Nat.le_of_ble_eq_true rfl) ?_
  intro p e s m args below meth c A ls Q H locs hx hb hr hlk hml hown hts hz hzl hA hzx hxt hQ hw hl
  have hl : lv_has ls 4 [(0, .ref a0.1), (1, .int p1), (2, .ref a1)] := hl
  have hw : ww A s.heap D [w10 cA cR a0 v0, [(a1, .inl (cL, 1, .inr (.inl f1)))]] H locs := hw
  refine lv_aload_n hx hb dL_revisit_0 rfl (lv_at hl 2 rfl) ?_
  refine lv_iconst (v := 0) hx hb dL_revisit_1 (by decide) ?_
  refine lv_aload_n hx hb dL_revisit_2 rfl (lv_at hl 0 rfl) ?_
  refine lv_iload_n hx hb dL_revisit_3 rfl (lv_at hl 1 rfl) ?_
  refine k_xt (cs := [w10 cA cR a0 v0]) (rs := [[(a1, .inl (cL, 1, .inr (.inl f1)))]]) (rest := [.int (0 : Int32), .ref a1]) hw hA [0] [1] [1, 0] rfl rfl rfl rfl rfl (k_runVX (ci := 10) (C := RX10) (T := TX10) (N := 7) (nA := 1) (As := [.int p1]) (cs := [w10 cA cR a0 v0]) (rs := [[(a1, .inl (cL, 1, .inr (.inl f1)))]]) (rest := [.int (0 : Int32), .ref a1]) ⟨hx, hb, hml, hown, hts⟩ hz hzx hw hA (tX10_revisit l hlt D cA cR N a0 v0 p1 2 hsp) gL_revisit_X10_revisit rfl rfl rfl (by decide +kernel) rfl ⟨Nat.le_of_ble_eq_true rfl, Nat.le_of_ble_eq_true rfl⟩ rfl rfl hl.1 rfl (Nat.le_of_ble_eq_true rfl) dL_revisit_4 ⟨Nat.le_of_ble_eq_true rfl, Nat.le_of_ble_eq_true rfl⟩ [0] [1] rfl rfl rfl) (fun H locs q ce hw h1 h2 h3 => ?_)
  refine k_catch (k := 2) (pre := []) (x := ⟨0, 9, 12, 24⟩) (suf := []) hts hown hzx (by rw [hxt]; rfl) (by decide) (fun z hz => absurd hz List.not_mem_nil) (by decide) (by decide) (by decide +kernel) h1 h2 h3 ?_
  refine lv_astore_n (lv' := [(3, .ref q), (0, .ref a0.1), (1, .int p1), (2, .ref a1)]) hx hb dL_revisit_12 rfl hl (by decide) rfl (fun ls hl => ?_)
  refine lv_iconst (v := 1) hx hb dL_revisit_13 (by decide) ?_
  subst hQ
  exact vx_ret (k_iret hx hb hr hlk hw dL_revisit_14)
abbrev rL_run : Room := { frames := 8, cells := 0, slots := 0, locals := 141 }
abbrev xL_run : Room := { frames := 8, cells := 1, slots := 6, locals := 141 }
set_option maxHeartbeats 4000000 in
set_option maxRecDepth 100000 in
theorem mL_run (l : Launch) (D : va_G) (cA cR cL cF : ClassId) (N : Nat) (a0 : A10) (v0 : V10) (p1 : Int32) (a1 : Nat) (f1 : Nat → Int64) (u : Int32 × V10) (hsp : sX10_run N v0 p1 = some (.inr u)) : ML_ l yL_run wsL_run rL_run D cA cR cL cF [.ref a0.1, .int p1, .ref a1] [w10 cA cR a0 v0, [(a1, .inl (cL, 1, .inr (.inl f1)))]] (some (.int 0)) [w10 cA cR a0 u.2, [(a1, .inl (cL, 1, .inr (.inl (vp_updL f1 (0 : Int32).toNatClampNeg u.1.toInt64))))]] 0 0 := by
  refine ML_.ofW (cc := cL_run) (maxL := 4) (ret := some .int) (hh := [(0, 9, 12, 13)]) (by decide) rfl (Nat.le_of_ble_eq_true rfl) ?_
  intro p e s m args below meth c A ls Q H locs hx hb hr hlk hml hown hts hz hzl hA hzx hxt hQ hw hl
  have hl : lv_has ls 4 [(0, .ref a0.1), (1, .int p1), (2, .ref a1)] := hl
  have hw : ww A s.heap D [w10 cA cR a0 v0, [(a1, .inl (cL, 1, .inr (.inl f1)))]] H locs := hw
  refine lv_aload_n hx hb dL_run_0 rfl (lv_at hl 2 rfl) ?_
  refine lv_iconst (v := 0) hx hb dL_run_1 (by decide) ?_
  refine lv_aload_n hx hb dL_run_2 rfl (lv_at hl 0 rfl) ?_
  refine lv_iload_n hx hb dL_run_3 rfl (lv_at hl 1 rfl) ?_
  refine k_callV (ci := 10) (C := RX10) (T := TX10) (N := 7) (nA := 1) (As := [.int p1]) (cs := [w10 cA cR a0 v0]) (rs := [[(a1, .inl (cL, 1, .inr (.inl f1)))]]) (cs1 := [w10 cA cR a0 u.2]) (bs1 := [w10 cA cR a0 u.2, [(a1, .inl (cL, 1, .inr (.inl f1)))]]) (rest := [.int (0 : Int32), .ref a1]) (st1 := [.int u.1, .int (0 : Int32), .ref a1]) ⟨hx, hb, hml, hown, hts⟩ hz hw hA (mX10_run l D cA cR N a0 v0 p1 u hsp) gL_run_X10_run rfl rfl rfl (by decide +kernel) rfl ⟨Nat.le_of_ble_eq_true rfl, Nat.le_of_ble_eq_true rfl⟩ rfl rfl hl.1 rfl (Nat.le_of_ble_eq_true rfl) dL_run_4 ⟨Nat.le_of_ble_eq_true rfl, Nat.le_of_ble_eq_true rfl⟩ [0] [1] [1, 0] rfl rfl rfl rfl rfl rfl (fun H locs hw => ?_)
  refine lv_i2l hx hb dL_run_7 rfl ?_
  refine k_last (bs1 := [w10 cA cR a0 u.2, [(a1, .inl (cL, 1, .inr (.inl (vp_updL f1 (0 : Int32).toNatClampNeg u.1.toInt64))))]]) hx hb hzl hw 1 rfl (by unfold vp_in; decide) dL_run_8 rfl (fun H locs hw => ?_)
  refine lv_goto (tgt := 15) hx hb dL_run_9 (by decide) ?_
  refine lv_iconst (v := 0) hx hb dL_run_15 (by decide) ?_
  subst hQ
  exact vx_ret (k_iret hx hb hr hlk hw dL_run_16)
set_option maxHeartbeats 4000000 in
set_option maxRecDepth 100000 in
theorem t0L_run (l : Launch) (hlt : l.stackTraces = false) (D : va_G) (cA cR cL cF : ClassId) (N : Nat) (a0 : A10) (v0 : V10) (p1 : Int32) (a1 : Nat) (f1 : Nat → Int64) (hsp : sX10_run N v0 p1 = some (.inl 0)) : ML_ l yL_run wsL_run xL_run D cA cR cL cF [.ref a0.1, .int p1, .ref a1] [w10 cA cR a0 v0, [(a1, .inl (cL, 1, .inr (.inl f1)))]] (some (.int 1)) [w10 cA cR a0 v0, [(a1, .inl (cL, 1, .inr (.inl f1)))]] 1 6 := by
  refine ML_.ofW (cc := cL_run) (maxL := 4) (ret := some .int) (hh := [(0, 9, 12, 13)]) (by decide) rfl (Nat.le_of_ble_eq_true rfl) ?_
  intro p e s m args below meth c A ls Q H locs hx hb hr hlk hml hown hts hz hzl hA hzx hxt hQ hw hl
  have hl : lv_has ls 4 [(0, .ref a0.1), (1, .int p1), (2, .ref a1)] := hl
  have hw : ww A s.heap D [w10 cA cR a0 v0, [(a1, .inl (cL, 1, .inr (.inl f1)))]] H locs := hw
  refine lv_aload_n hx hb dL_run_0 rfl (lv_at hl 2 rfl) ?_
  refine lv_iconst (v := 0) hx hb dL_run_1 (by decide) ?_
  refine lv_aload_n hx hb dL_run_2 rfl (lv_at hl 0 rfl) ?_
  refine lv_iload_n hx hb dL_run_3 rfl (lv_at hl 1 rfl) ?_
  refine k_xt (cs := [w10 cA cR a0 v0]) (rs := [[(a1, .inl (cL, 1, .inr (.inl f1)))]]) (rest := [.int (0 : Int32), .ref a1]) hw hA [0] [1] [1, 0] rfl rfl rfl rfl rfl (k_runVX (ci := 10) (C := RX10) (T := TX10) (N := 7) (nA := 1) (As := [.int p1]) (cs := [w10 cA cR a0 v0]) (rs := [[(a1, .inl (cL, 1, .inr (.inl f1)))]]) (rest := [.int (0 : Int32), .ref a1]) ⟨hx, hb, hml, hown, hts⟩ hz hzx hw hA (tX10_run l hlt D cA cR N a0 v0 p1 0 hsp) gL_run_X10_run rfl rfl rfl (by decide +kernel) rfl ⟨Nat.le_of_ble_eq_true rfl, Nat.le_of_ble_eq_true rfl⟩ rfl rfl hl.1 rfl (Nat.le_of_ble_eq_true rfl) dL_run_4 ⟨Nat.le_of_ble_eq_true rfl, Nat.le_of_ble_eq_true rfl⟩ [0] [1] rfl rfl rfl) (fun H locs q ce hw h1 h2 h3 => ?_)
  refine k_catch (k := 0) (pre := []) (x := ⟨0, 9, 12, 13⟩) (suf := []) hts hown hzx (by rw [hxt]; rfl) (by decide) (fun z hz => absurd hz List.not_mem_nil) (by decide) (by decide) (by decide +kernel) h1 h2 h3 ?_
  refine lv_astore_n (lv' := [(3, .ref q), (0, .ref a0.1), (1, .int p1), (2, .ref a1)]) hx hb dL_run_12 rfl hl (by decide) rfl (fun ls hl => ?_)
  refine lv_iconst (v := 1) hx hb dL_run_13 (by decide) ?_
  subst hQ
  exact vx_ret (k_iret hx hb hr hlk hw dL_run_14)
abbrev rL_level : Room := { frames := 8, cells := 0, slots := 0, locals := 132 }
abbrev xL_level : Room := { frames := 8, cells := 1, slots := 6, locals := 132 }
set_option maxHeartbeats 4000000 in
set_option maxRecDepth 100000 in
theorem mL_level (l : Launch) (D : va_G) (cA cR cL cF : ClassId) (N : Nat) (a0 : A10) (v0 : V10) (p1 : Int32) (a1 : Nat) (f1 : Nat → Int64) (u : Int32 × V10) (hsp : sX10_level N v0 p1 = some (.inr u)) : ML_ l yL_level wsL_level rL_level D cA cR cL cF [.ref a0.1, .int p1, .ref a1] [w10 cA cR a0 v0, [(a1, .inl (cL, 1, .inr (.inl f1)))]] (some (.int 0)) [w10 cA cR a0 u.2, [(a1, .inl (cL, 1, .inr (.inl (vp_updL f1 (0 : Int32).toNatClampNeg u.1.toInt64))))]] 0 0 := by
  refine ML_.ofW (cc := cL_level) (maxL := 4) (ret := some .int) (hh := [(0, 9, 12, 24)]) (by decide) rfl (Nat.le_of_ble_eq_true rfl) ?_
  intro p e s m args below meth c A ls Q H locs hx hb hr hlk hml hown hts hz hzl hA hzx hxt hQ hw hl
  have hl : lv_has ls 4 [(0, .ref a0.1), (1, .int p1), (2, .ref a1)] := hl
  have hw : ww A s.heap D [w10 cA cR a0 v0, [(a1, .inl (cL, 1, .inr (.inl f1)))]] H locs := hw
  refine lv_aload_n hx hb dL_level_0 rfl (lv_at hl 2 rfl) ?_
  refine lv_iconst (v := 0) hx hb dL_level_1 (by decide) ?_
  refine lv_aload_n hx hb dL_level_2 rfl (lv_at hl 0 rfl) ?_
  refine lv_iload_n hx hb dL_level_3 rfl (lv_at hl 1 rfl) ?_
  refine k_callV (ci := 10) (C := RX10) (T := TX10) (N := 7) (nA := 1) (As := [.int p1]) (cs := [w10 cA cR a0 v0]) (rs := [[(a1, .inl (cL, 1, .inr (.inl f1)))]]) (cs1 := [w10 cA cR a0 u.2]) (bs1 := [w10 cA cR a0 u.2, [(a1, .inl (cL, 1, .inr (.inl f1)))]]) (rest := [.int (0 : Int32), .ref a1]) (st1 := [.int u.1, .int (0 : Int32), .ref a1]) ⟨hx, hb, hml, hown, hts⟩ hz hw hA (mX10_level l D cA cR N a0 v0 p1 u hsp) gL_level_X10_level rfl rfl rfl (by decide +kernel) rfl ⟨Nat.le_of_ble_eq_true rfl, Nat.le_of_ble_eq_true rfl⟩ rfl rfl hl.1 rfl (Nat.le_of_ble_eq_true rfl) dL_level_4 ⟨Nat.le_of_ble_eq_true rfl, Nat.le_of_ble_eq_true rfl⟩ [0] [1] [1, 0] rfl rfl rfl rfl rfl rfl (fun H locs hw => ?_)
  refine lv_i2l hx hb dL_level_7 rfl ?_
  refine k_last (bs1 := [w10 cA cR a0 u.2, [(a1, .inl (cL, 1, .inr (.inl (vp_updL f1 (0 : Int32).toNatClampNeg u.1.toInt64))))]]) hx hb hzl hw 1 rfl (by unfold vp_in; decide) dL_level_8 rfl (fun H locs hw => ?_)
  refine lv_goto (tgt := 15) hx hb dL_level_9 (by decide) ?_
  refine lv_iconst (v := 0) hx hb dL_level_15 (by decide) ?_
  subst hQ
  exact vx_ret (k_iret hx hb hr hlk hw dL_level_16)
set_option maxHeartbeats 4000000 in
set_option maxRecDepth 100000 in
theorem t0L_level (l : Launch) (hlt : l.stackTraces = false) (D : va_G) (cA cR cL cF : ClassId) (N : Nat) (a0 : A10) (v0 : V10) (p1 : Int32) (a1 : Nat) (f1 : Nat → Int64) (hsp : sX10_level N v0 p1 = some (.inl 2)) : ML_ l yL_level wsL_level xL_level D cA cR cL cF [.ref a0.1, .int p1, .ref a1] [w10 cA cR a0 v0, [(a1, .inl (cL, 1, .inr (.inl f1)))]] (some (.int 1)) [w10 cA cR a0 v0, [(a1, .inl (cL, 1, .inr (.inl f1)))]] 1 6 := by
  refine ML_.ofW (cc := cL_level) (maxL := 4) (ret := some .int) (hh := [(0, 9, 12, 24)]) (by decide) rfl (Nat.le_of_ble_eq_true rfl) ?_
  intro p e s m args below meth c A ls Q H locs hx hb hr hlk hml hown hts hz hzl hA hzx hxt hQ hw hl
  have hl : lv_has ls 4 [(0, .ref a0.1), (1, .int p1), (2, .ref a1)] := hl
  have hw : ww A s.heap D [w10 cA cR a0 v0, [(a1, .inl (cL, 1, .inr (.inl f1)))]] H locs := hw
  refine lv_aload_n hx hb dL_level_0 rfl (lv_at hl 2 rfl) ?_
  refine lv_iconst (v := 0) hx hb dL_level_1 (by decide) ?_
  refine lv_aload_n hx hb dL_level_2 rfl (lv_at hl 0 rfl) ?_
  refine lv_iload_n hx hb dL_level_3 rfl (lv_at hl 1 rfl) ?_
  refine k_xt (cs := [w10 cA cR a0 v0]) (rs := [[(a1, .inl (cL, 1, .inr (.inl f1)))]]) (rest := [.int (0 : Int32), .ref a1]) hw hA [0] [1] [1, 0] rfl rfl rfl rfl rfl (k_runVX (ci := 10) (C := RX10) (T := TX10) (N := 7) (nA := 1) (As := [.int p1]) (cs := [w10 cA cR a0 v0]) (rs := [[(a1, .inl (cL, 1, .inr (.inl f1)))]]) (rest := [.int (0 : Int32), .ref a1]) ⟨hx, hb, hml, hown, hts⟩ hz hzx hw hA (tX10_level l hlt D cA cR N a0 v0 p1 2 hsp) gL_level_X10_level rfl rfl rfl (by decide +kernel) rfl ⟨Nat.le_of_ble_eq_true rfl, Nat.le_of_ble_eq_true rfl⟩ rfl rfl hl.1 rfl (Nat.le_of_ble_eq_true rfl) dL_level_4 ⟨Nat.le_of_ble_eq_true rfl, Nat.le_of_ble_eq_true rfl⟩ [0] [1] rfl rfl rfl) (fun H locs q ce hw h1 h2 h3 => ?_)
  refine k_catch (k := 2) (pre := []) (x := ⟨0, 9, 12, 24⟩) (suf := []) hts hown hzx (by rw [hxt]; rfl) (by decide) (fun z hz => absurd hz List.not_mem_nil) (by decide) (by decide) (by decide +kernel) h1 h2 h3 ?_
  refine lv_astore_n (lv' := [(3, .ref q), (0, .ref a0.1), (1, .int p1), (2, .ref a1)]) hx hb dL_level_12 rfl hl (by decide) rfl (fun ls hl => ?_)
  refine lv_iconst (v := 1) hx hb dL_level_13 (by decide) ?_
  subst hQ
  exact vx_ret (k_iret hx hb hr hlk hw dL_level_14)
abbrev rL_detector : Room := { frames := 8, cells := 0, slots := 0, locals := 134 }
abbrev xL_detector : Room := { frames := 8, cells := 1, slots := 6, locals := 134 }
set_option maxHeartbeats 4000000 in
set_option maxRecDepth 100000 in
theorem mL_detector (l : Launch) (D : va_G) (cA cR cL cF : ClassId) (a0 : A10) (v0 : V10) (p1 : Int32) (p2 : Int32) (a1 : Nat) (f1 : Nat → Int64) (u : Int32) (hsp : sX10_detector v0 p1 p2 = some (.inr u)) : ML_ l yL_detector wsL_detector rL_detector D cA cR cL cF [.ref a0.1, .int p1, .int p2, .ref a1] [w10 cA cR a0 v0, [(a1, .inl (cL, 1, .inr (.inl f1)))]] (some (.int 0)) [w10 cA cR a0 v0, [(a1, .inl (cL, 1, .inr (.inl (vp_updL f1 (0 : Int32).toNatClampNeg u.toInt64))))]] 0 0 := by
  refine ML_.ofW (cc := cL_detector) (maxL := 5) (ret := some .int) (hh := [(0, 10, 13, 24), (0, 10, 17, 13)]) (by decide) rfl (Nat.le_of_ble_eq_true rfl) ?_
  intro p e s m args below meth c A ls Q H locs hx hb hr hlk hml hown hts hz hzl hA hzx hxt hQ hw hl
  have hl : lv_has ls 5 [(0, .ref a0.1), (1, .int p1), (2, .int p2), (3, .ref a1)] := hl
  have hw : ww A s.heap D [w10 cA cR a0 v0, [(a1, .inl (cL, 1, .inr (.inl f1)))]] H locs := hw
  refine lv_aload_n hx hb dL_detector_0 rfl (lv_at hl 3 rfl) ?_
  refine lv_iconst (v := 0) hx hb dL_detector_1 (by decide) ?_
  refine lv_aload_n hx hb dL_detector_2 rfl (lv_at hl 0 rfl) ?_
  refine lv_iload_n hx hb dL_detector_3 rfl (lv_at hl 1 rfl) ?_
  refine lv_iload_n hx hb dL_detector_4 rfl (lv_at hl 2 rfl) ?_
  refine k_callV (ci := 10) (C := RX10) (T := TX10) (N := 7) (nA := 2) (As := [.int p1, .int p2]) (cs := [w10 cA cR a0 v0]) (rs := [[(a1, .inl (cL, 1, .inr (.inl f1)))]]) (cs1 := [w10 cA cR a0 v0]) (bs1 := [w10 cA cR a0 v0, [(a1, .inl (cL, 1, .inr (.inl f1)))]]) (rest := [.int (0 : Int32), .ref a1]) (st1 := [.int u, .int (0 : Int32), .ref a1]) ⟨hx, hb, hml, hown, hts⟩ hz hw hA (mX10_detector l D cA cR a0 v0 p1 p2 u hsp) gL_detector_X10_detector rfl rfl rfl (by decide +kernel) rfl ⟨Nat.le_of_ble_eq_true rfl, Nat.le_of_ble_eq_true rfl⟩ rfl rfl hl.1 rfl (Nat.le_of_ble_eq_true rfl) dL_detector_5 ⟨Nat.le_of_ble_eq_true rfl, Nat.le_of_ble_eq_true rfl⟩ [0] [1] [1, 0] rfl rfl rfl rfl rfl rfl (fun H locs hw => ?_)
  refine lv_i2l hx hb dL_detector_8 rfl ?_
  refine k_last (bs1 := [w10 cA cR a0 v0, [(a1, .inl (cL, 1, .inr (.inl (vp_updL f1 (0 : Int32).toNatClampNeg u.toInt64))))]]) hx hb hzl hw 1 rfl (by unfold vp_in; decide) dL_detector_9 rfl (fun H locs hw => ?_)
  refine lv_goto (tgt := 21) hx hb dL_detector_10 (by decide) ?_
  refine lv_iconst (v := 0) hx hb dL_detector_21 (by decide) ?_
  subst hQ
  exact vx_ret (k_iret hx hb hr hlk hw dL_detector_22)
set_option maxHeartbeats 4000000 in
set_option maxRecDepth 100000 in
theorem t0L_detector (l : Launch) (hlt : l.stackTraces = false) (D : va_G) (cA cR cL cF : ClassId) (a0 : A10) (v0 : V10) (p1 : Int32) (p2 : Int32) (a1 : Nat) (f1 : Nat → Int64) (hsp : sX10_detector v0 p1 p2 = some (.inl 2)) : ML_ l yL_detector wsL_detector xL_detector D cA cR cL cF [.ref a0.1, .int p1, .int p2, .ref a1] [w10 cA cR a0 v0, [(a1, .inl (cL, 1, .inr (.inl f1)))]] (some (.int 1)) [w10 cA cR a0 v0, [(a1, .inl (cL, 1, .inr (.inl f1)))]] 1 6 := by
  refine ML_.ofW (cc := cL_detector) (maxL := 5) (ret := some .int) (hh := [(0, 10, 13, 24), (0, 10, 17, 13)]) (by decide) rfl (Nat.le_of_ble_eq_true rfl) ?_
  intro p e s m args below meth c A ls Q H locs hx hb hr hlk hml hown hts hz hzl hA hzx hxt hQ hw hl
  have hl : lv_has ls 5 [(0, .ref a0.1), (1, .int p1), (2, .int p2), (3, .ref a1)] := hl
  have hw : ww A s.heap D [w10 cA cR a0 v0, [(a1, .inl (cL, 1, .inr (.inl f1)))]] H locs := hw
  refine lv_aload_n hx hb dL_detector_0 rfl (lv_at hl 3 rfl) ?_
  refine lv_iconst (v := 0) hx hb dL_detector_1 (by decide) ?_
  refine lv_aload_n hx hb dL_detector_2 rfl (lv_at hl 0 rfl) ?_
  refine lv_iload_n hx hb dL_detector_3 rfl (lv_at hl 1 rfl) ?_
  refine lv_iload_n hx hb dL_detector_4 rfl (lv_at hl 2 rfl) ?_
  refine k_xt (cs := [w10 cA cR a0 v0]) (rs := [[(a1, .inl (cL, 1, .inr (.inl f1)))]]) (rest := [.int (0 : Int32), .ref a1]) hw hA [0] [1] [1, 0] rfl rfl rfl rfl rfl (k_runVX (ci := 10) (C := RX10) (T := TX10) (N := 7) (nA := 2) (As := [.int p1, .int p2]) (cs := [w10 cA cR a0 v0]) (rs := [[(a1, .inl (cL, 1, .inr (.inl f1)))]]) (rest := [.int (0 : Int32), .ref a1]) ⟨hx, hb, hml, hown, hts⟩ hz hzx hw hA (tX10_detector l hlt D cA cR a0 v0 p1 p2 2 hsp) gL_detector_X10_detector rfl rfl rfl (by decide +kernel) rfl ⟨Nat.le_of_ble_eq_true rfl, Nat.le_of_ble_eq_true rfl⟩ rfl rfl hl.1 rfl (Nat.le_of_ble_eq_true rfl) dL_detector_5 ⟨Nat.le_of_ble_eq_true rfl, Nat.le_of_ble_eq_true rfl⟩ [0] [1] rfl rfl rfl) (fun H locs q ce hw h1 h2 h3 => ?_)
  refine k_catch (k := 2) (pre := []) (x := ⟨0, 10, 13, 24⟩) (suf := [⟨0, 10, 17, 13⟩]) hts hown hzx (by rw [hxt]; rfl) (by decide) (fun z hz => absurd hz List.not_mem_nil) (by decide) (by decide) (by decide +kernel) h1 h2 h3 ?_
  refine lv_astore (lv' := [(4, .ref q), (0, .ref a0.1), (1, .int p1), (2, .int p2), (3, .ref a1)]) hx hb dL_detector_13 hl (by decide) rfl (fun ls hl => ?_)
  refine lv_iconst (v := 1) hx hb dL_detector_15 (by decide) ?_
  subst hQ
  exact vx_ret (k_iret hx hb hr hlk hw dL_detector_16)
set_option maxHeartbeats 4000000 in
set_option maxRecDepth 100000 in
theorem t1L_detector (l : Launch) (hlt : l.stackTraces = false) (D : va_G) (cA cR cL cF : ClassId) (a0 : A10) (v0 : V10) (p1 : Int32) (p2 : Int32) (a1 : Nat) (f1 : Nat → Int64) (hsp : sX10_detector v0 p1 p2 = some (.inl 0)) : ML_ l yL_detector wsL_detector xL_detector D cA cR cL cF [.ref a0.1, .int p1, .int p2, .ref a1] [w10 cA cR a0 v0, [(a1, .inl (cL, 1, .inr (.inl f1)))]] (some (.int 2)) [w10 cA cR a0 v0, [(a1, .inl (cL, 1, .inr (.inl f1)))]] 1 6 := by
  refine ML_.ofW (cc := cL_detector) (maxL := 5) (ret := some .int) (hh := [(0, 10, 13, 24), (0, 10, 17, 13)]) (by decide) rfl (Nat.le_of_ble_eq_true rfl) ?_
  intro p e s m args below meth c A ls Q H locs hx hb hr hlk hml hown hts hz hzl hA hzx hxt hQ hw hl
  have hl : lv_has ls 5 [(0, .ref a0.1), (1, .int p1), (2, .int p2), (3, .ref a1)] := hl
  have hw : ww A s.heap D [w10 cA cR a0 v0, [(a1, .inl (cL, 1, .inr (.inl f1)))]] H locs := hw
  refine lv_aload_n hx hb dL_detector_0 rfl (lv_at hl 3 rfl) ?_
  refine lv_iconst (v := 0) hx hb dL_detector_1 (by decide) ?_
  refine lv_aload_n hx hb dL_detector_2 rfl (lv_at hl 0 rfl) ?_
  refine lv_iload_n hx hb dL_detector_3 rfl (lv_at hl 1 rfl) ?_
  refine lv_iload_n hx hb dL_detector_4 rfl (lv_at hl 2 rfl) ?_
  refine k_xt (cs := [w10 cA cR a0 v0]) (rs := [[(a1, .inl (cL, 1, .inr (.inl f1)))]]) (rest := [.int (0 : Int32), .ref a1]) hw hA [0] [1] [1, 0] rfl rfl rfl rfl rfl (k_runVX (ci := 10) (C := RX10) (T := TX10) (N := 7) (nA := 2) (As := [.int p1, .int p2]) (cs := [w10 cA cR a0 v0]) (rs := [[(a1, .inl (cL, 1, .inr (.inl f1)))]]) (rest := [.int (0 : Int32), .ref a1]) ⟨hx, hb, hml, hown, hts⟩ hz hzx hw hA (tX10_detector l hlt D cA cR a0 v0 p1 p2 0 hsp) gL_detector_X10_detector rfl rfl rfl (by decide +kernel) rfl ⟨Nat.le_of_ble_eq_true rfl, Nat.le_of_ble_eq_true rfl⟩ rfl rfl hl.1 rfl (Nat.le_of_ble_eq_true rfl) dL_detector_5 ⟨Nat.le_of_ble_eq_true rfl, Nat.le_of_ble_eq_true rfl⟩ [0] [1] rfl rfl rfl) (fun H locs q ce hw h1 h2 h3 => ?_)
  refine k_catch (k := 0) (pre := [⟨0, 10, 13, 24⟩]) (x := ⟨0, 10, 17, 13⟩) (suf := []) hts hown hzx (by rw [hxt]; rfl) (by decide) (fun z hz => by rcases List.mem_singleton.mp hz with rfl; exact ⟨by decide, 2, by decide, by decide, by decide +kernel⟩) (by decide) (by decide) (by decide +kernel) h1 h2 h3 ?_
  refine lv_astore (lv' := [(4, .ref q), (0, .ref a0.1), (1, .int p1), (2, .int p2), (3, .ref a1)]) hx hb dL_detector_17 hl (by decide) rfl (fun ls hl => ?_)
  refine lv_iconst (v := 2) hx hb dL_detector_19 (by decide) ?_
  subst hQ
  exact vx_ret (k_iret hx hb hr hlk hw dL_detector_20)
abbrev rL_average : Room := { frames := 8, cells := 0, slots := 0, locals := 132 }
abbrev xL_average : Room := { frames := 8, cells := 1, slots := 6, locals := 132 }
set_option maxHeartbeats 4000000 in
set_option maxRecDepth 100000 in
theorem mL_average (l : Launch) (D : va_G) (cA cR cL cF : ClassId) (N : Nat) (a0 : A10) (v0 : V10) (p1 : Int32) (a1 : Nat) (f1 : Nat → Int64) (u : Int32) (hsp : sX10_average N v0 p1 = some (.inr u)) : ML_ l yL_average wsL_average rL_average D cA cR cL cF [.ref a0.1, .int p1, .ref a1] [w10 cA cR a0 v0, [(a1, .inl (cL, 1, .inr (.inl f1)))]] (some (.int 0)) [w10 cA cR a0 v0, [(a1, .inl (cL, 1, .inr (.inl (vp_updL f1 (0 : Int32).toNatClampNeg u.toInt64))))]] 0 0 := by
  refine ML_.ofW (cc := cL_average) (maxL := 4) (ret := some .int) (hh := [(0, 9, 12, 24)]) (by decide) rfl (Nat.le_of_ble_eq_true rfl) ?_
  intro p e s m args below meth c A ls Q H locs hx hb hr hlk hml hown hts hz hzl hA hzx hxt hQ hw hl
  have hl : lv_has ls 4 [(0, .ref a0.1), (1, .int p1), (2, .ref a1)] := hl
  have hw : ww A s.heap D [w10 cA cR a0 v0, [(a1, .inl (cL, 1, .inr (.inl f1)))]] H locs := hw
  refine lv_aload_n hx hb dL_average_0 rfl (lv_at hl 2 rfl) ?_
  refine lv_iconst (v := 0) hx hb dL_average_1 (by decide) ?_
  refine lv_aload_n hx hb dL_average_2 rfl (lv_at hl 0 rfl) ?_
  refine lv_iload_n hx hb dL_average_3 rfl (lv_at hl 1 rfl) ?_
  refine k_callV (ci := 10) (C := RX10) (T := TX10) (N := 7) (nA := 1) (As := [.int p1]) (cs := [w10 cA cR a0 v0]) (rs := [[(a1, .inl (cL, 1, .inr (.inl f1)))]]) (cs1 := [w10 cA cR a0 v0]) (bs1 := [w10 cA cR a0 v0, [(a1, .inl (cL, 1, .inr (.inl f1)))]]) (rest := [.int (0 : Int32), .ref a1]) (st1 := [.int u, .int (0 : Int32), .ref a1]) ⟨hx, hb, hml, hown, hts⟩ hz hw hA (mX10_average l D cA cR N a0 v0 p1 u hsp) gL_average_X10_average rfl rfl rfl (by decide +kernel) rfl ⟨Nat.le_of_ble_eq_true rfl, Nat.le_of_ble_eq_true rfl⟩ rfl rfl hl.1 rfl (Nat.le_of_ble_eq_true rfl) dL_average_4 ⟨Nat.le_of_ble_eq_true rfl, Nat.le_of_ble_eq_true rfl⟩ [0] [1] [1, 0] rfl rfl rfl rfl rfl rfl (fun H locs hw => ?_)
  refine lv_i2l hx hb dL_average_7 rfl ?_
  refine k_last (bs1 := [w10 cA cR a0 v0, [(a1, .inl (cL, 1, .inr (.inl (vp_updL f1 (0 : Int32).toNatClampNeg u.toInt64))))]]) hx hb hzl hw 1 rfl (by unfold vp_in; decide) dL_average_8 rfl (fun H locs hw => ?_)
  refine lv_goto (tgt := 15) hx hb dL_average_9 (by decide) ?_
  refine lv_iconst (v := 0) hx hb dL_average_15 (by decide) ?_
  subst hQ
  exact vx_ret (k_iret hx hb hr hlk hw dL_average_16)
set_option maxHeartbeats 4000000 in
set_option maxRecDepth 100000 in
theorem t0L_average (l : Launch) (hlt : l.stackTraces = false) (D : va_G) (cA cR cL cF : ClassId) (N : Nat) (a0 : A10) (v0 : V10) (p1 : Int32) (a1 : Nat) (f1 : Nat → Int64) (hsp : sX10_average N v0 p1 = some (.inl 2)) : ML_ l yL_average wsL_average xL_average D cA cR cL cF [.ref a0.1, .int p1, .ref a1] [w10 cA cR a0 v0, [(a1, .inl (cL, 1, .inr (.inl f1)))]] (some (.int 1)) [w10 cA cR a0 v0, [(a1, .inl (cL, 1, .inr (.inl f1)))]] 1 6 := by
  refine ML_.ofW (cc := cL_average) (maxL := 4) (ret := some .int) (hh := [(0, 9, 12, 24)]) (by decide) rfl (Nat.le_of_ble_eq_true rfl) ?_
  intro p e s m args below meth c A ls Q H locs hx hb hr hlk hml hown hts hz hzl hA hzx hxt hQ hw hl
  have hl : lv_has ls 4 [(0, .ref a0.1), (1, .int p1), (2, .ref a1)] := hl
  have hw : ww A s.heap D [w10 cA cR a0 v0, [(a1, .inl (cL, 1, .inr (.inl f1)))]] H locs := hw
  refine lv_aload_n hx hb dL_average_0 rfl (lv_at hl 2 rfl) ?_
  refine lv_iconst (v := 0) hx hb dL_average_1 (by decide) ?_
  refine lv_aload_n hx hb dL_average_2 rfl (lv_at hl 0 rfl) ?_
  refine lv_iload_n hx hb dL_average_3 rfl (lv_at hl 1 rfl) ?_
  refine k_xt (cs := [w10 cA cR a0 v0]) (rs := [[(a1, .inl (cL, 1, .inr (.inl f1)))]]) (rest := [.int (0 : Int32), .ref a1]) hw hA [0] [1] [1, 0] rfl rfl rfl rfl rfl (k_runVX (ci := 10) (C := RX10) (T := TX10) (N := 7) (nA := 1) (As := [.int p1]) (cs := [w10 cA cR a0 v0]) (rs := [[(a1, .inl (cL, 1, .inr (.inl f1)))]]) (rest := [.int (0 : Int32), .ref a1]) ⟨hx, hb, hml, hown, hts⟩ hz hzx hw hA (tX10_average l hlt D cA cR N a0 v0 p1 2 hsp) gL_average_X10_average rfl rfl rfl (by decide +kernel) rfl ⟨Nat.le_of_ble_eq_true rfl, Nat.le_of_ble_eq_true rfl⟩ rfl rfl hl.1 rfl (Nat.le_of_ble_eq_true rfl) dL_average_4 ⟨Nat.le_of_ble_eq_true rfl, Nat.le_of_ble_eq_true rfl⟩ [0] [1] rfl rfl rfl) (fun H locs q ce hw h1 h2 h3 => ?_)
  refine k_catch (k := 2) (pre := []) (x := ⟨0, 9, 12, 24⟩) (suf := []) hts hown hzx (by rw [hxt]; rfl) (by decide) (fun z hz => absurd hz List.not_mem_nil) (by decide) (by decide) (by decide +kernel) h1 h2 h3 ?_
  refine lv_astore_n (lv' := [(3, .ref q), (0, .ref a0.1), (1, .int p1), (2, .ref a1)]) hx hb dL_average_12 rfl hl (by decide) rfl (fun ls hl => ?_)
  refine lv_iconst (v := 1) hx hb dL_average_13 (by decide) ?_
  subst hQ
  exact vx_ret (k_iret hx hb hr hlk hw dL_average_14)
abbrev rL_occupancy : Room := { frames := 8, cells := 0, slots := 0, locals := 134 }
abbrev xL_occupancy : Room := { frames := 8, cells := 1, slots := 6, locals := 134 }
set_option maxHeartbeats 4000000 in
set_option maxRecDepth 100000 in
theorem mL_occupancy (l : Launch) (D : va_G) (cA cR cL cF : ClassId) (a0 : A10) (v0 : V10) (p1 : Int32) (a1 : Nat) (f1 : Nat → UInt64) (u : UInt64) (hsp : sX10_occupancy v0 p1 = some (.inr u)) : ML_ l yL_occupancy wsL_occupancy rL_occupancy D cA cR cL cF [.ref a0.1, .int p1, .ref a1] [w10 cA cR a0 v0, [(a1, .inl (cF, 1, .inr (.inr (.inr (.inl f1)))))]] (some (.int 0)) [w10 cA cR a0 v0, [(a1, .inl (cF, 1, .inr (.inr (.inr (.inl (vf_upd f1 (0 : Int32).toNatClampNeg u))))))]] 0 0 := by
  refine ML_.ofW (cc := cL_occupancy) (maxL := 4) (ret := some .int) (hh := [(0, 8, 11, 24)]) (by decide) rfl (Nat.le_of_ble_eq_true rfl) ?_
  intro p e s m args below meth c A ls Q H locs hx hb hr hlk hml hown hts hz hzl hA hzx hxt hQ hw hl
  have hl : lv_has ls 4 [(0, .ref a0.1), (1, .int p1), (2, .ref a1)] := hl
  have hw : ww A s.heap D [w10 cA cR a0 v0, [(a1, .inl (cF, 1, .inr (.inr (.inr (.inl f1)))))]] H locs := hw
  refine lv_aload_n hx hb dL_occupancy_0 rfl (lv_at hl 2 rfl) ?_
  refine lv_iconst (v := 0) hx hb dL_occupancy_1 (by decide) ?_
  refine lv_aload_n hx hb dL_occupancy_2 rfl (lv_at hl 0 rfl) ?_
  refine lv_iload_n hx hb dL_occupancy_3 rfl (lv_at hl 1 rfl) ?_
  refine k_callV (ci := 10) (C := RX10) (T := TX10) (N := 7) (nA := 1) (As := [.int p1]) (cs := [w10 cA cR a0 v0]) (rs := [[(a1, .inl (cF, 1, .inr (.inr (.inr (.inl f1)))))]]) (cs1 := [w10 cA cR a0 v0]) (bs1 := [w10 cA cR a0 v0, [(a1, .inl (cF, 1, .inr (.inr (.inr (.inl f1)))))]]) (rest := [.int (0 : Int32), .ref a1]) (st1 := [.double u, .int (0 : Int32), .ref a1]) ⟨hx, hb, hml, hown, hts⟩ hz hw hA (mX10_occupancy l D cA cR a0 v0 p1 u hsp) gL_occupancy_X10_occupancy rfl rfl rfl (by decide +kernel) rfl ⟨Nat.le_of_ble_eq_true rfl, Nat.le_of_ble_eq_true rfl⟩ rfl rfl hl.1 rfl (Nat.le_of_ble_eq_true rfl) dL_occupancy_4 ⟨Nat.le_of_ble_eq_true rfl, Nat.le_of_ble_eq_true rfl⟩ [0] [1] [1, 0] rfl rfl rfl rfl rfl rfl (fun H locs hw => ?_)
  refine k_dast (bs1 := [w10 cA cR a0 v0, [(a1, .inl (cF, 1, .inr (.inr (.inr (.inl (vf_upd f1 (0 : Int32).toNatClampNeg u))))))]]) hx hb hzl hw 1 rfl (by unfold vp_in; decide) dL_occupancy_7 rfl (fun H locs hw => ?_)
  refine lv_goto (tgt := 14) hx hb dL_occupancy_8 (by decide) ?_
  refine lv_iconst (v := 0) hx hb dL_occupancy_14 (by decide) ?_
  subst hQ
  exact vx_ret (k_iret hx hb hr hlk hw dL_occupancy_15)
set_option maxHeartbeats 4000000 in
set_option maxRecDepth 100000 in
theorem t0L_occupancy (l : Launch) (hlt : l.stackTraces = false) (D : va_G) (cA cR cL cF : ClassId) (a0 : A10) (v0 : V10) (p1 : Int32) (a1 : Nat) (f1 : Nat → UInt64) (hsp : sX10_occupancy v0 p1 = some (.inl 2)) : ML_ l yL_occupancy wsL_occupancy xL_occupancy D cA cR cL cF [.ref a0.1, .int p1, .ref a1] [w10 cA cR a0 v0, [(a1, .inl (cF, 1, .inr (.inr (.inr (.inl f1)))))]] (some (.int 1)) [w10 cA cR a0 v0, [(a1, .inl (cF, 1, .inr (.inr (.inr (.inl f1)))))]] 1 6 := by
  refine ML_.ofW (cc := cL_occupancy) (maxL := 4) (ret := some .int) (hh := [(0, 8, 11, 24)]) (by decide) rfl (Nat.le_of_ble_eq_true rfl) ?_
  intro p e s m args below meth c A ls Q H locs hx hb hr hlk hml hown hts hz hzl hA hzx hxt hQ hw hl
  have hl : lv_has ls 4 [(0, .ref a0.1), (1, .int p1), (2, .ref a1)] := hl
  have hw : ww A s.heap D [w10 cA cR a0 v0, [(a1, .inl (cF, 1, .inr (.inr (.inr (.inl f1)))))]] H locs := hw
  refine lv_aload_n hx hb dL_occupancy_0 rfl (lv_at hl 2 rfl) ?_
  refine lv_iconst (v := 0) hx hb dL_occupancy_1 (by decide) ?_
  refine lv_aload_n hx hb dL_occupancy_2 rfl (lv_at hl 0 rfl) ?_
  refine lv_iload_n hx hb dL_occupancy_3 rfl (lv_at hl 1 rfl) ?_
  refine k_xt (cs := [w10 cA cR a0 v0]) (rs := [[(a1, .inl (cF, 1, .inr (.inr (.inr (.inl f1)))))]]) (rest := [.int (0 : Int32), .ref a1]) hw hA [0] [1] [1, 0] rfl rfl rfl rfl rfl (k_runVX (ci := 10) (C := RX10) (T := TX10) (N := 7) (nA := 1) (As := [.int p1]) (cs := [w10 cA cR a0 v0]) (rs := [[(a1, .inl (cF, 1, .inr (.inr (.inr (.inl f1)))))]]) (rest := [.int (0 : Int32), .ref a1]) ⟨hx, hb, hml, hown, hts⟩ hz hzx hw hA (tX10_occupancy l hlt D cA cR a0 v0 p1 2 hsp) gL_occupancy_X10_occupancy rfl rfl rfl (by decide +kernel) rfl ⟨Nat.le_of_ble_eq_true rfl, Nat.le_of_ble_eq_true rfl⟩ rfl rfl hl.1 rfl (Nat.le_of_ble_eq_true rfl) dL_occupancy_4 ⟨Nat.le_of_ble_eq_true rfl, Nat.le_of_ble_eq_true rfl⟩ [0] [1] rfl rfl rfl) (fun H locs q ce hw h1 h2 h3 => ?_)
  refine k_catch (k := 2) (pre := []) (x := ⟨0, 8, 11, 24⟩) (suf := []) hts hown hzx (by rw [hxt]; rfl) (by decide) (fun z hz => absurd hz List.not_mem_nil) (by decide) (by decide) (by decide +kernel) h1 h2 h3 ?_
  refine lv_astore_n (lv' := [(3, .ref q), (0, .ref a0.1), (1, .int p1), (2, .ref a1)]) hx hb dL_occupancy_11 rfl hl (by decide) rfl (fun ls hl => ?_)
  refine lv_iconst (v := 1) hx hb dL_occupancy_12 (by decide) ?_
  subst hQ
  exact vx_ret (k_iret hx hb hr hlk hw dL_occupancy_13)
abbrev rL_event : Room := { frames := 8, cells := 0, slots := 0, locals := 166 }
abbrev xL_event : Room := { frames := 8, cells := 1, slots := 6, locals := 166 }
set_option maxHeartbeats 4000000 in
set_option maxRecDepth 100000 in
theorem mL_event (l : Launch) (D : va_G) (cA cR cL cF : ClassId) (N : Nat) (a0 : A10) (v0 : V10) (p1 : Int32) (p2 : Int32) (a1 : Nat) (f1 : Nat → Int64) (u : Int32 × V10) (hsp : sX10_event N v0 p1 p2 = some (.inr u)) : ML_ l yL_event wsL_event rL_event D cA cR cL cF [.ref a0.1, .int p1, .int p2, .ref a1] [w10 cA cR a0 v0, [(a1, .inl (cL, 1, .inr (.inl f1)))]] (some (.int 0)) [w10 cA cR a0 u.2, [(a1, .inl (cL, 1, .inr (.inl (vp_updL f1 (0 : Int32).toNatClampNeg u.1.toInt64))))]] 0 0 := by
  refine ML_.ofW (cc := cL_event) (maxL := 5) (ret := some .int) (hh := [(0, 10, 13, 24), (0, 10, 17, 13)]) (by decide) rfl (Nat.le_of_ble_eq_true rfl) ?_
  intro p e s m args below meth c A ls Q H locs hx hb hr hlk hml hown hts hz hzl hA hzx hxt hQ hw hl
  have hl : lv_has ls 5 [(0, .ref a0.1), (1, .int p1), (2, .int p2), (3, .ref a1)] := hl
  have hw : ww A s.heap D [w10 cA cR a0 v0, [(a1, .inl (cL, 1, .inr (.inl f1)))]] H locs := hw
  refine lv_aload_n hx hb dL_event_0 rfl (lv_at hl 3 rfl) ?_
  refine lv_iconst (v := 0) hx hb dL_event_1 (by decide) ?_
  refine lv_aload_n hx hb dL_event_2 rfl (lv_at hl 0 rfl) ?_
  refine lv_iload_n hx hb dL_event_3 rfl (lv_at hl 1 rfl) ?_
  refine lv_iload_n hx hb dL_event_4 rfl (lv_at hl 2 rfl) ?_
  refine k_callV (ci := 10) (C := RX10) (T := TX10) (N := 7) (nA := 2) (As := [.int p1, .int p2]) (cs := [w10 cA cR a0 v0]) (rs := [[(a1, .inl (cL, 1, .inr (.inl f1)))]]) (cs1 := [w10 cA cR a0 u.2]) (bs1 := [w10 cA cR a0 u.2, [(a1, .inl (cL, 1, .inr (.inl f1)))]]) (rest := [.int (0 : Int32), .ref a1]) (st1 := [.int u.1, .int (0 : Int32), .ref a1]) ⟨hx, hb, hml, hown, hts⟩ hz hw hA (mX10_event l D cA cR N a0 v0 p1 p2 u hsp) gL_event_X10_event rfl rfl rfl (by decide +kernel) rfl ⟨Nat.le_of_ble_eq_true rfl, Nat.le_of_ble_eq_true rfl⟩ rfl rfl hl.1 rfl (Nat.le_of_ble_eq_true rfl) dL_event_5 ⟨Nat.le_of_ble_eq_true rfl, Nat.le_of_ble_eq_true rfl⟩ [0] [1] [1, 0] rfl rfl rfl rfl rfl rfl (fun H locs hw => ?_)
  refine lv_i2l hx hb dL_event_8 rfl ?_
  refine k_last (bs1 := [w10 cA cR a0 u.2, [(a1, .inl (cL, 1, .inr (.inl (vp_updL f1 (0 : Int32).toNatClampNeg u.1.toInt64))))]]) hx hb hzl hw 1 rfl (by unfold vp_in; decide) dL_event_9 rfl (fun H locs hw => ?_)
  refine lv_goto (tgt := 21) hx hb dL_event_10 (by decide) ?_
  refine lv_iconst (v := 0) hx hb dL_event_21 (by decide) ?_
  subst hQ
  exact vx_ret (k_iret hx hb hr hlk hw dL_event_22)
set_option maxHeartbeats 4000000 in
set_option maxRecDepth 100000 in
theorem t0L_event (l : Launch) (hlt : l.stackTraces = false) (D : va_G) (cA cR cL cF : ClassId) (N : Nat) (a0 : A10) (v0 : V10) (p1 : Int32) (p2 : Int32) (a1 : Nat) (f1 : Nat → Int64) (hsp : sX10_event N v0 p1 p2 = some (.inl 2)) : ML_ l yL_event wsL_event xL_event D cA cR cL cF [.ref a0.1, .int p1, .int p2, .ref a1] [w10 cA cR a0 v0, [(a1, .inl (cL, 1, .inr (.inl f1)))]] (some (.int 1)) [w10 cA cR a0 v0, [(a1, .inl (cL, 1, .inr (.inl f1)))]] 1 6 := by
  refine ML_.ofW (cc := cL_event) (maxL := 5) (ret := some .int) (hh := [(0, 10, 13, 24), (0, 10, 17, 13)]) (by decide) rfl (Nat.le_of_ble_eq_true rfl) ?_
  intro p e s m args below meth c A ls Q H locs hx hb hr hlk hml hown hts hz hzl hA hzx hxt hQ hw hl
  have hl : lv_has ls 5 [(0, .ref a0.1), (1, .int p1), (2, .int p2), (3, .ref a1)] := hl
  have hw : ww A s.heap D [w10 cA cR a0 v0, [(a1, .inl (cL, 1, .inr (.inl f1)))]] H locs := hw
  refine lv_aload_n hx hb dL_event_0 rfl (lv_at hl 3 rfl) ?_
  refine lv_iconst (v := 0) hx hb dL_event_1 (by decide) ?_
  refine lv_aload_n hx hb dL_event_2 rfl (lv_at hl 0 rfl) ?_
  refine lv_iload_n hx hb dL_event_3 rfl (lv_at hl 1 rfl) ?_
  refine lv_iload_n hx hb dL_event_4 rfl (lv_at hl 2 rfl) ?_
  refine k_xt (cs := [w10 cA cR a0 v0]) (rs := [[(a1, .inl (cL, 1, .inr (.inl f1)))]]) (rest := [.int (0 : Int32), .ref a1]) hw hA [0] [1] [1, 0] rfl rfl rfl rfl rfl (k_runVX (ci := 10) (C := RX10) (T := TX10) (N := 7) (nA := 2) (As := [.int p1, .int p2]) (cs := [w10 cA cR a0 v0]) (rs := [[(a1, .inl (cL, 1, .inr (.inl f1)))]]) (rest := [.int (0 : Int32), .ref a1]) ⟨hx, hb, hml, hown, hts⟩ hz hzx hw hA (tX10_event l hlt D cA cR N a0 v0 p1 p2 2 hsp) gL_event_X10_event rfl rfl rfl (by decide +kernel) rfl ⟨Nat.le_of_ble_eq_true rfl, Nat.le_of_ble_eq_true rfl⟩ rfl rfl hl.1 rfl (Nat.le_of_ble_eq_true rfl) dL_event_5 ⟨Nat.le_of_ble_eq_true rfl, Nat.le_of_ble_eq_true rfl⟩ [0] [1] rfl rfl rfl) (fun H locs q ce hw h1 h2 h3 => ?_)
  refine k_catch (k := 2) (pre := []) (x := ⟨0, 10, 13, 24⟩) (suf := [⟨0, 10, 17, 13⟩]) hts hown hzx (by rw [hxt]; rfl) (by decide) (fun z hz => absurd hz List.not_mem_nil) (by decide) (by decide) (by decide +kernel) h1 h2 h3 ?_
  refine lv_astore (lv' := [(4, .ref q), (0, .ref a0.1), (1, .int p1), (2, .int p2), (3, .ref a1)]) hx hb dL_event_13 hl (by decide) rfl (fun ls hl => ?_)
  refine lv_iconst (v := 1) hx hb dL_event_15 (by decide) ?_
  subst hQ
  exact vx_ret (k_iret hx hb hr hlk hw dL_event_16)
set_option maxHeartbeats 4000000 in
set_option maxRecDepth 100000 in
theorem t1L_event (l : Launch) (hlt : l.stackTraces = false) (D : va_G) (cA cR cL cF : ClassId) (N : Nat) (a0 : A10) (v0 : V10) (p1 : Int32) (p2 : Int32) (a1 : Nat) (f1 : Nat → Int64) (hsp : sX10_event N v0 p1 p2 = some (.inl 0)) : ML_ l yL_event wsL_event xL_event D cA cR cL cF [.ref a0.1, .int p1, .int p2, .ref a1] [w10 cA cR a0 v0, [(a1, .inl (cL, 1, .inr (.inl f1)))]] (some (.int 2)) [w10 cA cR a0 v0, [(a1, .inl (cL, 1, .inr (.inl f1)))]] 1 6 := by
  refine ML_.ofW (cc := cL_event) (maxL := 5) (ret := some .int) (hh := [(0, 10, 13, 24), (0, 10, 17, 13)]) (by decide) rfl (Nat.le_of_ble_eq_true rfl) ?_
  intro p e s m args below meth c A ls Q H locs hx hb hr hlk hml hown hts hz hzl hA hzx hxt hQ hw hl
  have hl : lv_has ls 5 [(0, .ref a0.1), (1, .int p1), (2, .int p2), (3, .ref a1)] := hl
  have hw : ww A s.heap D [w10 cA cR a0 v0, [(a1, .inl (cL, 1, .inr (.inl f1)))]] H locs := hw
  refine lv_aload_n hx hb dL_event_0 rfl (lv_at hl 3 rfl) ?_
  refine lv_iconst (v := 0) hx hb dL_event_1 (by decide) ?_
  refine lv_aload_n hx hb dL_event_2 rfl (lv_at hl 0 rfl) ?_
  refine lv_iload_n hx hb dL_event_3 rfl (lv_at hl 1 rfl) ?_
  refine lv_iload_n hx hb dL_event_4 rfl (lv_at hl 2 rfl) ?_
  refine k_xt (cs := [w10 cA cR a0 v0]) (rs := [[(a1, .inl (cL, 1, .inr (.inl f1)))]]) (rest := [.int (0 : Int32), .ref a1]) hw hA [0] [1] [1, 0] rfl rfl rfl rfl rfl (k_runVX (ci := 10) (C := RX10) (T := TX10) (N := 7) (nA := 2) (As := [.int p1, .int p2]) (cs := [w10 cA cR a0 v0]) (rs := [[(a1, .inl (cL, 1, .inr (.inl f1)))]]) (rest := [.int (0 : Int32), .ref a1]) ⟨hx, hb, hml, hown, hts⟩ hz hzx hw hA (tX10_event l hlt D cA cR N a0 v0 p1 p2 0 hsp) gL_event_X10_event rfl rfl rfl (by decide +kernel) rfl ⟨Nat.le_of_ble_eq_true rfl, Nat.le_of_ble_eq_true rfl⟩ rfl rfl hl.1 rfl (Nat.le_of_ble_eq_true rfl) dL_event_5 ⟨Nat.le_of_ble_eq_true rfl, Nat.le_of_ble_eq_true rfl⟩ [0] [1] rfl rfl rfl) (fun H locs q ce hw h1 h2 h3 => ?_)
  refine k_catch (k := 0) (pre := [⟨0, 10, 13, 24⟩]) (x := ⟨0, 10, 17, 13⟩) (suf := []) hts hown hzx (by rw [hxt]; rfl) (by decide) (fun z hz => by rcases List.mem_singleton.mp hz with rfl; exact ⟨by decide, 2, by decide, by decide, by decide +kernel⟩) (by decide) (by decide) (by decide +kernel) h1 h2 h3 ?_
  refine lv_astore (lv' := [(4, .ref q), (0, .ref a0.1), (1, .int p1), (2, .int p2), (3, .ref a1)]) hx hb dL_event_17 hl (by decide) rfl (fun ls hl => ?_)
  refine lv_iconst (v := 2) hx hb dL_event_19 (by decide) ?_
  subst hQ
  exact vx_ret (k_iret hx hb hr hlk hw dL_event_20)
abbrev rL_chainLength : Room := { frames := 8, cells := 0, slots := 0, locals := 165 }
abbrev xL_chainLength : Room := { frames := 8, cells := 1, slots := 6, locals := 165 }
set_option maxHeartbeats 4000000 in
set_option maxRecDepth 100000 in
theorem mL_chainLength (l : Launch) (D : va_G) (cA cR cL cF : ClassId) (N : Nat) (a0 : A10) (v0 : V10) (p1 : Int32) (a1 : Nat) (f1 : Nat → Int64) (u : Int32 × V10) (hsp : sX10_chainLength N v0 p1 = some (.inr u)) : ML_ l yL_chainLength wsL_chainLength rL_chainLength D cA cR cL cF [.ref a0.1, .int p1, .ref a1] [w10 cA cR a0 v0, [(a1, .inl (cL, 1, .inr (.inl f1)))]] (some (.int 0)) [w10 cA cR a0 u.2, [(a1, .inl (cL, 1, .inr (.inl (vp_updL f1 (0 : Int32).toNatClampNeg u.1.toInt64))))]] 0 0 := by
  refine ML_.ofW (cc := cL_chainLength) (maxL := 4) (ret := some .int) (hh := [(0, 9, 12, 24)]) (by decide) rfl (Nat.le_of_ble_eq_true rfl) ?_
  intro p e s m args below meth c A ls Q H locs hx hb hr hlk hml hown hts hz hzl hA hzx hxt hQ hw hl
  have hl : lv_has ls 4 [(0, .ref a0.1), (1, .int p1), (2, .ref a1)] := hl
  have hw : ww A s.heap D [w10 cA cR a0 v0, [(a1, .inl (cL, 1, .inr (.inl f1)))]] H locs := hw
  refine lv_aload_n hx hb dL_chainLength_0 rfl (lv_at hl 2 rfl) ?_
  refine lv_iconst (v := 0) hx hb dL_chainLength_1 (by decide) ?_
  refine lv_aload_n hx hb dL_chainLength_2 rfl (lv_at hl 0 rfl) ?_
  refine lv_iload_n hx hb dL_chainLength_3 rfl (lv_at hl 1 rfl) ?_
  refine k_callV (ci := 10) (C := RX10) (T := TX10) (N := 7) (nA := 1) (As := [.int p1]) (cs := [w10 cA cR a0 v0]) (rs := [[(a1, .inl (cL, 1, .inr (.inl f1)))]]) (cs1 := [w10 cA cR a0 u.2]) (bs1 := [w10 cA cR a0 u.2, [(a1, .inl (cL, 1, .inr (.inl f1)))]]) (rest := [.int (0 : Int32), .ref a1]) (st1 := [.int u.1, .int (0 : Int32), .ref a1]) ⟨hx, hb, hml, hown, hts⟩ hz hw hA (mX10_chainLength l D cA cR N a0 v0 p1 u hsp) gL_chainLength_X10_chainLength rfl rfl rfl (by decide +kernel) rfl ⟨Nat.le_of_ble_eq_true rfl, Nat.le_of_ble_eq_true rfl⟩ rfl rfl hl.1 rfl (Nat.le_of_ble_eq_true rfl) dL_chainLength_4 ⟨Nat.le_of_ble_eq_true rfl, Nat.le_of_ble_eq_true rfl⟩ [0] [1] [1, 0] rfl rfl rfl rfl rfl rfl (fun H locs hw => ?_)
  refine lv_i2l hx hb dL_chainLength_7 rfl ?_
  refine k_last (bs1 := [w10 cA cR a0 u.2, [(a1, .inl (cL, 1, .inr (.inl (vp_updL f1 (0 : Int32).toNatClampNeg u.1.toInt64))))]]) hx hb hzl hw 1 rfl (by unfold vp_in; decide) dL_chainLength_8 rfl (fun H locs hw => ?_)
  refine lv_goto (tgt := 15) hx hb dL_chainLength_9 (by decide) ?_
  refine lv_iconst (v := 0) hx hb dL_chainLength_15 (by decide) ?_
  subst hQ
  exact vx_ret (k_iret hx hb hr hlk hw dL_chainLength_16)
set_option maxHeartbeats 4000000 in
set_option maxRecDepth 100000 in
theorem t0L_chainLength (l : Launch) (hlt : l.stackTraces = false) (D : va_G) (cA cR cL cF : ClassId) (N : Nat) (a0 : A10) (v0 : V10) (p1 : Int32) (a1 : Nat) (f1 : Nat → Int64) (hsp : sX10_chainLength N v0 p1 = some (.inl 2)) : ML_ l yL_chainLength wsL_chainLength xL_chainLength D cA cR cL cF [.ref a0.1, .int p1, .ref a1] [w10 cA cR a0 v0, [(a1, .inl (cL, 1, .inr (.inl f1)))]] (some (.int 1)) [w10 cA cR a0 v0, [(a1, .inl (cL, 1, .inr (.inl f1)))]] 1 6 := by
  refine ML_.ofW (cc := cL_chainLength) (maxL := 4) (ret := some .int) (hh := [(0, 9, 12, 24)]) (by decide) rfl (Nat.le_of_ble_eq_true rfl) ?_
  intro p e s m args below meth c A ls Q H locs hx hb hr hlk hml hown hts hz hzl hA hzx hxt hQ hw hl
  have hl : lv_has ls 4 [(0, .ref a0.1), (1, .int p1), (2, .ref a1)] := hl
  have hw : ww A s.heap D [w10 cA cR a0 v0, [(a1, .inl (cL, 1, .inr (.inl f1)))]] H locs := hw
  refine lv_aload_n hx hb dL_chainLength_0 rfl (lv_at hl 2 rfl) ?_
  refine lv_iconst (v := 0) hx hb dL_chainLength_1 (by decide) ?_
  refine lv_aload_n hx hb dL_chainLength_2 rfl (lv_at hl 0 rfl) ?_
  refine lv_iload_n hx hb dL_chainLength_3 rfl (lv_at hl 1 rfl) ?_
  refine k_xt (cs := [w10 cA cR a0 v0]) (rs := [[(a1, .inl (cL, 1, .inr (.inl f1)))]]) (rest := [.int (0 : Int32), .ref a1]) hw hA [0] [1] [1, 0] rfl rfl rfl rfl rfl (k_runVX (ci := 10) (C := RX10) (T := TX10) (N := 7) (nA := 1) (As := [.int p1]) (cs := [w10 cA cR a0 v0]) (rs := [[(a1, .inl (cL, 1, .inr (.inl f1)))]]) (rest := [.int (0 : Int32), .ref a1]) ⟨hx, hb, hml, hown, hts⟩ hz hzx hw hA (tX10_chainLength l hlt D cA cR N a0 v0 p1 2 hsp) gL_chainLength_X10_chainLength rfl rfl rfl (by decide +kernel) rfl ⟨Nat.le_of_ble_eq_true rfl, Nat.le_of_ble_eq_true rfl⟩ rfl rfl hl.1 rfl (Nat.le_of_ble_eq_true rfl) dL_chainLength_4 ⟨Nat.le_of_ble_eq_true rfl, Nat.le_of_ble_eq_true rfl⟩ [0] [1] rfl rfl rfl) (fun H locs q ce hw h1 h2 h3 => ?_)
  refine k_catch (k := 2) (pre := []) (x := ⟨0, 9, 12, 24⟩) (suf := []) hts hown hzx (by rw [hxt]; rfl) (by decide) (fun z hz => absurd hz List.not_mem_nil) (by decide) (by decide) (by decide +kernel) h1 h2 h3 ?_
  refine lv_astore_n (lv' := [(3, .ref q), (0, .ref a0.1), (1, .int p1), (2, .ref a1)]) hx hb dL_chainLength_12 rfl hl (by decide) rfl (fun ls hl => ?_)
  refine lv_iconst (v := 1) hx hb dL_chainLength_13 (by decide) ?_
  subst hQ
  exact vx_ret (k_iret hx hb hr hlk hw dL_chainLength_14)
abbrev rL_hopInterval : Room := { frames := 8, cells := 0, slots := 0, locals := 169 }
abbrev xL_hopInterval : Room := { frames := 8, cells := 1, slots := 6, locals := 169 }
set_option maxHeartbeats 4000000 in
set_option maxRecDepth 100000 in
theorem mL_hopInterval (l : Launch) (D : va_G) (cA cR cL cF : ClassId) (N : Nat) (a0 : A10) (v0 : V10) (p1 : Int32) (a1 : Nat) (f1 : Nat → UInt64) (u : UInt64 × V10) (hsp : sX10_hopInterval N v0 p1 = some (.inr u)) : ML_ l yL_hopInterval wsL_hopInterval rL_hopInterval D cA cR cL cF [.ref a0.1, .int p1, .ref a1] [w10 cA cR a0 v0, [(a1, .inl (cF, 1, .inr (.inr (.inr (.inl f1)))))]] (some (.int 0)) [w10 cA cR a0 u.2, [(a1, .inl (cF, 1, .inr (.inr (.inr (.inl (vf_upd f1 (0 : Int32).toNatClampNeg u.1))))))]] 0 0 := by
  refine ML_.ofW (cc := cL_hopInterval) (maxL := 4) (ret := some .int) (hh := [(0, 8, 11, 24)]) (by decide) rfl (Nat.le_of_ble_eq_true rfl) ?_
  intro p e s m args below meth c A ls Q H locs hx hb hr hlk hml hown hts hz hzl hA hzx hxt hQ hw hl
  have hl : lv_has ls 4 [(0, .ref a0.1), (1, .int p1), (2, .ref a1)] := hl
  have hw : ww A s.heap D [w10 cA cR a0 v0, [(a1, .inl (cF, 1, .inr (.inr (.inr (.inl f1)))))]] H locs := hw
  refine lv_aload_n hx hb dL_hopInterval_0 rfl (lv_at hl 2 rfl) ?_
  refine lv_iconst (v := 0) hx hb dL_hopInterval_1 (by decide) ?_
  refine lv_aload_n hx hb dL_hopInterval_2 rfl (lv_at hl 0 rfl) ?_
  refine lv_iload_n hx hb dL_hopInterval_3 rfl (lv_at hl 1 rfl) ?_
  refine k_callV (ci := 10) (C := RX10) (T := TX10) (N := 7) (nA := 1) (As := [.int p1]) (cs := [w10 cA cR a0 v0]) (rs := [[(a1, .inl (cF, 1, .inr (.inr (.inr (.inl f1)))))]]) (cs1 := [w10 cA cR a0 u.2]) (bs1 := [w10 cA cR a0 u.2, [(a1, .inl (cF, 1, .inr (.inr (.inr (.inl f1)))))]]) (rest := [.int (0 : Int32), .ref a1]) (st1 := [.double u.1, .int (0 : Int32), .ref a1]) ⟨hx, hb, hml, hown, hts⟩ hz hw hA (mX10_hopInterval l D cA cR N a0 v0 p1 u hsp) gL_hopInterval_X10_hopInterval rfl rfl rfl (by decide +kernel) rfl ⟨Nat.le_of_ble_eq_true rfl, Nat.le_of_ble_eq_true rfl⟩ rfl rfl hl.1 rfl (Nat.le_of_ble_eq_true rfl) dL_hopInterval_4 ⟨Nat.le_of_ble_eq_true rfl, Nat.le_of_ble_eq_true rfl⟩ [0] [1] [1, 0] rfl rfl rfl rfl rfl rfl (fun H locs hw => ?_)
  refine k_dast (bs1 := [w10 cA cR a0 u.2, [(a1, .inl (cF, 1, .inr (.inr (.inr (.inl (vf_upd f1 (0 : Int32).toNatClampNeg u.1))))))]]) hx hb hzl hw 1 rfl (by unfold vp_in; decide) dL_hopInterval_7 rfl (fun H locs hw => ?_)
  refine lv_goto (tgt := 14) hx hb dL_hopInterval_8 (by decide) ?_
  refine lv_iconst (v := 0) hx hb dL_hopInterval_14 (by decide) ?_
  subst hQ
  exact vx_ret (k_iret hx hb hr hlk hw dL_hopInterval_15)
set_option maxHeartbeats 4000000 in
set_option maxRecDepth 100000 in
theorem t0L_hopInterval (l : Launch) (hlt : l.stackTraces = false) (D : va_G) (cA cR cL cF : ClassId) (N : Nat) (a0 : A10) (v0 : V10) (p1 : Int32) (a1 : Nat) (f1 : Nat → UInt64) (hsp : sX10_hopInterval N v0 p1 = some (.inl 2)) : ML_ l yL_hopInterval wsL_hopInterval xL_hopInterval D cA cR cL cF [.ref a0.1, .int p1, .ref a1] [w10 cA cR a0 v0, [(a1, .inl (cF, 1, .inr (.inr (.inr (.inl f1)))))]] (some (.int 1)) [w10 cA cR a0 v0, [(a1, .inl (cF, 1, .inr (.inr (.inr (.inl f1)))))]] 1 6 := by
  refine ML_.ofW (cc := cL_hopInterval) (maxL := 4) (ret := some .int) (hh := [(0, 8, 11, 24)]) (by decide) rfl (Nat.le_of_ble_eq_true rfl) ?_
  intro p e s m args below meth c A ls Q H locs hx hb hr hlk hml hown hts hz hzl hA hzx hxt hQ hw hl
  have hl : lv_has ls 4 [(0, .ref a0.1), (1, .int p1), (2, .ref a1)] := hl
  have hw : ww A s.heap D [w10 cA cR a0 v0, [(a1, .inl (cF, 1, .inr (.inr (.inr (.inl f1)))))]] H locs := hw
  refine lv_aload_n hx hb dL_hopInterval_0 rfl (lv_at hl 2 rfl) ?_
  refine lv_iconst (v := 0) hx hb dL_hopInterval_1 (by decide) ?_
  refine lv_aload_n hx hb dL_hopInterval_2 rfl (lv_at hl 0 rfl) ?_
  refine lv_iload_n hx hb dL_hopInterval_3 rfl (lv_at hl 1 rfl) ?_
  refine k_xt (cs := [w10 cA cR a0 v0]) (rs := [[(a1, .inl (cF, 1, .inr (.inr (.inr (.inl f1)))))]]) (rest := [.int (0 : Int32), .ref a1]) hw hA [0] [1] [1, 0] rfl rfl rfl rfl rfl (k_runVX (ci := 10) (C := RX10) (T := TX10) (N := 7) (nA := 1) (As := [.int p1]) (cs := [w10 cA cR a0 v0]) (rs := [[(a1, .inl (cF, 1, .inr (.inr (.inr (.inl f1)))))]]) (rest := [.int (0 : Int32), .ref a1]) ⟨hx, hb, hml, hown, hts⟩ hz hzx hw hA (tX10_hopInterval l hlt D cA cR N a0 v0 p1 2 hsp) gL_hopInterval_X10_hopInterval rfl rfl rfl (by decide +kernel) rfl ⟨Nat.le_of_ble_eq_true rfl, Nat.le_of_ble_eq_true rfl⟩ rfl rfl hl.1 rfl (Nat.le_of_ble_eq_true rfl) dL_hopInterval_4 ⟨Nat.le_of_ble_eq_true rfl, Nat.le_of_ble_eq_true rfl⟩ [0] [1] rfl rfl rfl) (fun H locs q ce hw h1 h2 h3 => ?_)
  refine k_catch (k := 2) (pre := []) (x := ⟨0, 8, 11, 24⟩) (suf := []) hts hown hzx (by rw [hxt]; rfl) (by decide) (fun z hz => absurd hz List.not_mem_nil) (by decide) (by decide) (by decide +kernel) h1 h2 h3 ?_
  refine lv_astore_n (lv' := [(3, .ref q), (0, .ref a0.1), (1, .int p1), (2, .ref a1)]) hx hb dL_hopInterval_11 rfl hl (by decide) rfl (fun ls hl => ?_)
  refine lv_iconst (v := 1) hx hb dL_hopInterval_12 (by decide) ?_
  subst hQ
  exact vx_ret (k_iret hx hb hr hlk hw dL_hopInterval_13)
abbrev rL_undo : Room := { frames := 7, cells := 0, slots := 0, locals := 132 }
abbrev xL_undo : Room := { frames := 7, cells := 1, slots := 6, locals := 132 }
set_option maxHeartbeats 4000000 in
set_option maxRecDepth 100000 in
theorem mL_undo (l : Launch) (D : va_G) (cA cR cL cF : ClassId) (a0 : A10) (v0 : V10) (a1 : Nat) (f1 : Nat → Int64) (u : Int32 × V10) (hsp : sX10_undo v0 = some (.inr u)) : ML_ l yL_undo wsL_undo rL_undo D cA cR cL cF [.ref a0.1, .ref a1] [w10 cA cR a0 v0, [(a1, .inl (cL, 1, .inr (.inl f1)))]] (some (.int 0)) [w10 cA cR a0 u.2, [(a1, .inl (cL, 1, .inr (.inl (vp_updL f1 (0 : Int32).toNatClampNeg u.1.toInt64))))]] 0 0 := by
  refine ML_.ofW (cc := cL_undo) (maxL := 3) (ret := some .int) (hh := [(0, 8, 11, 15)]) (by decide) rfl (Nat.le_of_ble_eq_true rfl) ?_
  intro p e s m args below meth c A ls Q H locs hx hb hr hlk hml hown hts hz hzl hA hzx hxt hQ hw hl
  have hl : lv_has ls 3 [(0, .ref a0.1), (1, .ref a1)] := hl
  have hw : ww A s.heap D [w10 cA cR a0 v0, [(a1, .inl (cL, 1, .inr (.inl f1)))]] H locs := hw
  refine lv_aload_n hx hb dL_undo_0 rfl (lv_at hl 1 rfl) ?_
  refine lv_iconst (v := 0) hx hb dL_undo_1 (by decide) ?_
  refine lv_aload_n hx hb dL_undo_2 rfl (lv_at hl 0 rfl) ?_
  refine k_callV (ci := 10) (C := RX10) (T := TX10) (N := 7) (nA := 0) (As := []) (cs := [w10 cA cR a0 v0]) (rs := [[(a1, .inl (cL, 1, .inr (.inl f1)))]]) (cs1 := [w10 cA cR a0 u.2]) (bs1 := [w10 cA cR a0 u.2, [(a1, .inl (cL, 1, .inr (.inl f1)))]]) (rest := [.int (0 : Int32), .ref a1]) (st1 := [.int u.1, .int (0 : Int32), .ref a1]) ⟨hx, hb, hml, hown, hts⟩ hz hw hA (mX10_undo l D cA cR a0 v0 u hsp) gL_undo_X10_undo rfl rfl rfl (by decide +kernel) rfl ⟨Nat.le_of_ble_eq_true rfl, Nat.le_of_ble_eq_true rfl⟩ rfl rfl hl.1 rfl (Nat.le_of_ble_eq_true rfl) dL_undo_3 ⟨Nat.le_of_ble_eq_true rfl, Nat.le_of_ble_eq_true rfl⟩ [0] [1] [1, 0] rfl rfl rfl rfl rfl rfl (fun H locs hw => ?_)
  refine lv_i2l hx hb dL_undo_6 rfl ?_
  refine k_last (bs1 := [w10 cA cR a0 u.2, [(a1, .inl (cL, 1, .inr (.inl (vp_updL f1 (0 : Int32).toNatClampNeg u.1.toInt64))))]]) hx hb hzl hw 1 rfl (by unfold vp_in; decide) dL_undo_7 rfl (fun H locs hw => ?_)
  refine lv_goto (tgt := 14) hx hb dL_undo_8 (by decide) ?_
  refine lv_iconst (v := 0) hx hb dL_undo_14 (by decide) ?_
  subst hQ
  exact vx_ret (k_iret hx hb hr hlk hw dL_undo_15)
set_option maxHeartbeats 4000000 in
set_option maxRecDepth 100000 in
theorem t0L_undo (l : Launch) (hlt : l.stackTraces = false) (D : va_G) (cA cR cL cF : ClassId) (a0 : A10) (v0 : V10) (a1 : Nat) (f1 : Nat → Int64) (hsp : sX10_undo v0 = some (.inl 1)) : ML_ l yL_undo wsL_undo xL_undo D cA cR cL cF [.ref a0.1, .ref a1] [w10 cA cR a0 v0, [(a1, .inl (cL, 1, .inr (.inl f1)))]] (some (.int 1)) [w10 cA cR a0 v0, [(a1, .inl (cL, 1, .inr (.inl f1)))]] 1 6 := by
  refine ML_.ofW (cc := cL_undo) (maxL := 3) (ret := some .int) (hh := [(0, 8, 11, 15)]) (by decide) rfl (Nat.le_of_ble_eq_true rfl) ?_
  intro p e s m args below meth c A ls Q H locs hx hb hr hlk hml hown hts hz hzl hA hzx hxt hQ hw hl
  have hl : lv_has ls 3 [(0, .ref a0.1), (1, .ref a1)] := hl
  have hw : ww A s.heap D [w10 cA cR a0 v0, [(a1, .inl (cL, 1, .inr (.inl f1)))]] H locs := hw
  refine lv_aload_n hx hb dL_undo_0 rfl (lv_at hl 1 rfl) ?_
  refine lv_iconst (v := 0) hx hb dL_undo_1 (by decide) ?_
  refine lv_aload_n hx hb dL_undo_2 rfl (lv_at hl 0 rfl) ?_
  refine k_xt (cs := [w10 cA cR a0 v0]) (rs := [[(a1, .inl (cL, 1, .inr (.inl f1)))]]) (rest := [.int (0 : Int32), .ref a1]) hw hA [0] [1] [1, 0] rfl rfl rfl rfl rfl (k_runVX (ci := 10) (C := RX10) (T := TX10) (N := 7) (nA := 0) (As := []) (cs := [w10 cA cR a0 v0]) (rs := [[(a1, .inl (cL, 1, .inr (.inl f1)))]]) (rest := [.int (0 : Int32), .ref a1]) ⟨hx, hb, hml, hown, hts⟩ hz hzx hw hA (tX10_undo l hlt D cA cR a0 v0 1 hsp) gL_undo_X10_undo rfl rfl rfl (by decide +kernel) rfl ⟨Nat.le_of_ble_eq_true rfl, Nat.le_of_ble_eq_true rfl⟩ rfl rfl hl.1 rfl (Nat.le_of_ble_eq_true rfl) dL_undo_3 ⟨Nat.le_of_ble_eq_true rfl, Nat.le_of_ble_eq_true rfl⟩ [0] [1] rfl rfl rfl) (fun H locs q ce hw h1 h2 h3 => ?_)
  refine k_catch (k := 1) (pre := []) (x := ⟨0, 8, 11, 15⟩) (suf := []) hts hown hzx (by rw [hxt]; rfl) (by decide) (fun z hz => absurd hz List.not_mem_nil) (by decide) (by decide) (by decide +kernel) h1 h2 h3 ?_
  refine lv_astore_n (lv' := [(2, .ref q), (0, .ref a0.1), (1, .ref a1)]) hx hb dL_undo_11 rfl hl (by decide) rfl (fun ls hl => ?_)
  refine lv_iconst (v := 1) hx hb dL_undo_12 (by decide) ?_
  subst hQ
  exact vx_ret (k_iret hx hb hr hlk hw dL_undo_13)
