noncomputable def sX0_byteAt (v0 : V0) (p1 : Int32) : Option (Int32) := ((sX10_within p1 v0.2).bind (fun o1 => (if o1 = 0 then (some (-1 : Int32)) else (if (nI v0.1.1) ≤ p1 then (some (-1 : Int32)) else (grd (vp_in p1 v0.1.1) (some (v0.1.2 p1.toNatClampNeg)))))))
abbrev rX0_byteAt : Room := { frames := 1, cells := 0, slots := 0, locals := 21 }
set_option maxHeartbeats 4000000 in
set_option maxRecDepth 100000 in
theorem mX0_byteAt (l : Launch) (D : va_G) (cA cR : ClassId) (a0 : A0) (v0 : V0) (p1 : Int32) (o : Int32) (hsp : sX0_byteAt v0 p1 = some o) : MI l yX0_byteAt wsX0_byteAt rX0_byteAt D cA cR [.ref a0.1, .int p1] [w0 cA a0 v0] (some (.int o)) [w0 cA a0 v0] 0 0 := by
  have hsp : ((sX10_within p1 v0.2).bind (fun o1 => (if o1 = 0 then (some (-1 : Int32)) else (if (nI v0.1.1) ≤ p1 then (some (-1 : Int32)) else (grd (vp_in p1 v0.1.1) (some (v0.1.2 p1.toNatClampNeg))))))) = some o := hsp
  refine MI.ofW (cc := cX0_byteAt) (maxL := 2) (ret := (some .int)) (by decide) rfl (Nat.le_of_ble_eq_true rfl) ?_
  intro p e s m args below meth c A ls Q H locs hx hb hr hlk hml hown hnm hts hz hA hQ hw hl
  have hl : lv_has ls 2 [(0, .ref a0.1), (1, .int p1)] := hl
  have hw : ww A s.heap D [[(a0.1, .inr (0, [.ref a0.2, .int v0.2]))], [(a0.2, .inl (cA, v0.1.1, .inl v0.1.2))]] H locs := hw
  refine lv_iload_n hx hb dX0_byteAt_0 rfl (lv_at hl 1 rfl) ?_
  refine lv_aload_n hx hb dX0_byteAt_1 rfl (lv_at hl 0 rfl) ?_
  refine k_get (ci := 0) (v := .int v0.2) (C := RX0) (T := TX0) (N := 2) hx hb hts hown hz hw (by decide +kernel) 0 rfl rfl 1 (by decide) (hts (.fieldLink RX0 21 "OccupancyMonitor$Bytes" "length" "I") (by decide +kernel)) (fun _ h9 => h9) rfl dX0_byteAt_2 ?_
  obtain ⟨o1, hso1, hsp⟩ := bnd_of hsp
  refine k_callSN (nA := 2) (As := [.int p1, .int v0.2]) (host := "OccupancyMonitor") (cs := []) (rs := [[(a0.1, .inr (0, [.ref a0.2, .int v0.2]))], [(a0.2, .inl (cA, v0.1.1, .inl v0.1.2))]]) (cs1 := []) (bs1 := [[(a0.1, .inr (0, [.ref a0.2, .int v0.2]))], [(a0.2, .inl (cA, v0.1.1, .inl v0.1.2))]]) (rest := []) (st1 := [.int o1]) ⟨hx, hb, hml, hown, hts⟩ hz hw hA (mX10_within l D cA cR p1 v0.2 o1 hso1) gX0_byteAt_X10_within_n25 rfl rfl rfl (by decide +kernel) (by decide +kernel) (by decide +kernel) (by decide +kernel) rfl ⟨Nat.le_of_ble_eq_true rfl, Nat.le_of_ble_eq_true rfl⟩ hl.1 rfl (Nat.le_of_ble_eq_true rfl) dX0_byteAt_5 ⟨Nat.le_of_ble_eq_true rfl, Nat.le_of_ble_eq_true rfl⟩ [] [0, 1] [0, 1] rfl rfl rfl rfl rfl rfl (fun H locs hw => ?_)
  refine lv_if_eq (tgt := 29) hx hb dX0_byteAt_8 (by decide) (fun c2 => ?_) (fun c2 => ?_)
  · have hsp := ift c2 hsp
    refine lv_iconst (v := -1) hx hb dX0_byteAt_29 (by decide) ?_
    have hsp := Option.some.inj hsp
    subst hsp
    have hw : ww A s.heap D [w0 cA a0 v0] H locs := hw
    subst hQ
    exact k_iret hx hb hr hlk hw dX0_byteAt_30
  · have hsp := iff_ c2 hsp
    refine lv_iload_n hx hb dX0_byteAt_11 rfl (lv_at hl 1 rfl) ?_
    refine lv_aload_n hx hb dX0_byteAt_12 rfl (lv_at hl 0 rfl) ?_
    refine k_get (ci := 0) (v := .ref a0.2) (C := RX0) (T := TX0) (N := 2) hx hb hts hown hz hw (by decide +kernel) 0 rfl rfl 0 (by decide) (hts (.fieldLink RX0 15 "OccupancyMonitor$Bytes" "values" "[I") (by decide +kernel)) (fun _ h9 => h9) rfl dX0_byteAt_13 ?_
    refine k_alen hx hb hz hw 1 rfl dX0_byteAt_16 ?_
    refine lv_icmp_ge (tgt := 29) hx hb dX0_byteAt_17 (by decide) (fun c3 => ?_) (fun c3 => ?_)
    · have hsp := ift c3 hsp
      refine lv_iconst (v := -1) hx hb dX0_byteAt_29 (by decide) ?_
      have hsp := Option.some.inj hsp
      subst hsp
      have hw : ww A s.heap D [w0 cA a0 v0] H locs := hw
      subst hQ
      exact k_iret hx hb hr hlk hw dX0_byteAt_30
    · have hsp := iff_ c3 hsp
      refine lv_aload_n hx hb dX0_byteAt_20 rfl (lv_at hl 0 rfl) ?_
      refine k_get (ci := 0) (v := .ref a0.2) (C := RX0) (T := TX0) (N := 2) hx hb hts hown hz hw (by decide +kernel) 0 rfl rfl 0 (by decide) (hts (.fieldLink RX0 15 "OccupancyMonitor$Bytes" "values" "[I") (by decide +kernel)) (fun _ h9 => h9) rfl dX0_byteAt_21 ?_
      refine lv_iload_n hx hb dX0_byteAt_24 rfl (lv_at hl 1 rfl) ?_
      obtain ⟨g4, hsp⟩ := grd_of hsp
      refine k_iald hx hb hz hw 1 rfl g4 dX0_byteAt_25 ?_
      refine lv_goto (tgt := 30) hx hb dX0_byteAt_26 (by decide) ?_
      have hsp := Option.some.inj hsp
      subst hsp
      have hw : ww A s.heap D [w0 cA a0 v0] H locs := hw
      subst hQ
      exact k_iret hx hb hr hlk hw dX0_byteAt_30
noncomputable def sX0_put (v0 : V0) (p1 : Int32) : Option (V0) := ((sX10_within v0.2 (nI v0.1.1)).bind (fun o1 => (if o1 = 0 then (some v0) else (grd (vp_in v0.2 v0.1.1) (lt_ (upd v0.1.2 v0.2.toNatClampNeg p1) (fun f4 => (some ((v0.1.1, f4), (v0.2 + (1 : Int32))))))))))
abbrev rX0_put : Room := { frames := 1, cells := 0, slots := 0, locals := 21 }
set_option maxHeartbeats 4000000 in
set_option maxRecDepth 100000 in
theorem mX0_put (l : Launch) (D : va_G) (cA cR : ClassId) (a0 : A0) (v0 : V0) (p1 : Int32) (o : V0) (hsp : sX0_put v0 p1 = some o) : MI l yX0_put wsX0_put rX0_put D cA cR [.ref a0.1, .int p1] [w0 cA a0 v0] none [w0 cA a0 o] 0 0 := by
  have hsp : ((sX10_within v0.2 (nI v0.1.1)).bind (fun o1 => (if o1 = 0 then (some v0) else (grd (vp_in v0.2 v0.1.1) (lt_ (upd v0.1.2 v0.2.toNatClampNeg p1) (fun f4 => (some ((v0.1.1, f4), (v0.2 + (1 : Int32)))))))))) = some o := hsp
  refine MI.ofW (cc := cX0_put) (maxL := 2) (ret := none) (by decide) rfl (Nat.le_of_ble_eq_true rfl) ?_
  intro p e s m args below meth c A ls Q H locs hx hb hr hlk hml hown hnm hts hz hA hQ hw hl
  have hl : lv_has ls 2 [(0, .ref a0.1), (1, .int p1)] := hl
  have hw : ww A s.heap D [[(a0.1, .inr (0, [.ref a0.2, .int v0.2]))], [(a0.2, .inl (cA, v0.1.1, .inl v0.1.2))]] H locs := hw
  refine lv_aload_n hx hb dX0_put_0 rfl (lv_at hl 0 rfl) ?_
  refine k_get (ci := 0) (v := .int v0.2) (C := RX0) (T := TX0) (N := 2) hx hb hts hown hz hw (by decide +kernel) 0 rfl rfl 1 (by decide) (hts (.fieldLink RX0 21 "OccupancyMonitor$Bytes" "length" "I") (by decide +kernel)) (fun _ h9 => h9) rfl dX0_put_1 ?_
  refine lv_aload_n hx hb dX0_put_4 rfl (lv_at hl 0 rfl) ?_
  refine k_get (ci := 0) (v := .ref a0.2) (C := RX0) (T := TX0) (N := 2) hx hb hts hown hz hw (by decide +kernel) 0 rfl rfl 0 (by decide) (hts (.fieldLink RX0 15 "OccupancyMonitor$Bytes" "values" "[I") (by decide +kernel)) (fun _ h9 => h9) rfl dX0_put_5 ?_
  refine k_alen hx hb hz hw 1 rfl dX0_put_8 ?_
  obtain ⟨o1, hso1, hsp⟩ := bnd_of hsp
  refine k_callSN (nA := 2) (As := [.int v0.2, .int (nI v0.1.1)]) (host := "OccupancyMonitor") (cs := []) (rs := [[(a0.1, .inr (0, [.ref a0.2, .int v0.2]))], [(a0.2, .inl (cA, v0.1.1, .inl v0.1.2))]]) (cs1 := []) (bs1 := [[(a0.1, .inr (0, [.ref a0.2, .int v0.2]))], [(a0.2, .inl (cA, v0.1.1, .inl v0.1.2))]]) (rest := []) (st1 := [.int o1]) ⟨hx, hb, hml, hown, hts⟩ hz hw hA (mX10_within l D cA cR v0.2 (nI v0.1.1) o1 hso1) gX0_put_X10_within_n25 rfl rfl rfl (by decide +kernel) (by decide +kernel) (by decide +kernel) (by decide +kernel) rfl ⟨Nat.le_of_ble_eq_true rfl, Nat.le_of_ble_eq_true rfl⟩ hl.1 rfl (Nat.le_of_ble_eq_true rfl) dX0_put_9 ⟨Nat.le_of_ble_eq_true rfl, Nat.le_of_ble_eq_true rfl⟩ [] [0, 1] [0, 1] rfl rfl rfl rfl rfl rfl (fun H locs hw => ?_)
  refine lv_if_eq (tgt := 35) hx hb dX0_put_12 (by decide) (fun c2 => ?_) (fun c2 => ?_)
  · have hsp := ift c2 hsp
    have hsp := Option.some.inj hsp
    subst hsp
    have hw : ww A s.heap D [w0 cA a0 v0] H locs := hw
    subst hQ
    exact k_vret hx hb hr hlk hw dX0_put_35
  · have hsp := iff_ c2 hsp
    refine lv_aload_n hx hb dX0_put_15 rfl (lv_at hl 0 rfl) ?_
    refine k_get (ci := 0) (v := .ref a0.2) (C := RX0) (T := TX0) (N := 2) hx hb hts hown hz hw (by decide +kernel) 0 rfl rfl 0 (by decide) (hts (.fieldLink RX0 15 "OccupancyMonitor$Bytes" "values" "[I") (by decide +kernel)) (fun _ h9 => h9) rfl dX0_put_16 ?_
    refine lv_aload_n hx hb dX0_put_19 rfl (lv_at hl 0 rfl) ?_
    refine k_get (ci := 0) (v := .int v0.2) (C := RX0) (T := TX0) (N := 2) hx hb hts hown hz hw (by decide +kernel) 0 rfl rfl 1 (by decide) (hts (.fieldLink RX0 21 "OccupancyMonitor$Bytes" "length" "I") (by decide +kernel)) (fun _ h9 => h9) rfl dX0_put_20 ?_
    refine lv_iload_n hx hb dX0_put_23 rfl (lv_at hl 1 rfl) ?_
    obtain ⟨g3, hsp⟩ := grd_of hsp
    obtain ⟨f4, ef4⟩ : ∃ u : Nat → Int32, u = (upd v0.1.2 v0.2.toNatClampNeg p1) := ⟨_, rfl⟩
    have hsp := lt_of hsp ef4
    refine k_iast (bs1 := [[(a0.1, .inr (0, [.ref a0.2, .int v0.2]))], [(a0.2, .inl (cA, v0.1.1, .inl f4))]]) hx hb hz hw 1 rfl g3 dX0_put_24 (by rw [ef4]; rfl) (fun H locs hw => ?_)
    refine lv_aload_n hx hb dX0_put_25 rfl (lv_at hl 0 rfl) ?_
    refine lv_dup hx hb dX0_put_26 rfl ?_
    refine k_get (ci := 0) (v := .int v0.2) (C := RX0) (T := TX0) (N := 2) hx hb hts hown hz hw (by decide +kernel) 0 rfl rfl 1 (by decide) (hts (.fieldLink RX0 21 "OccupancyMonitor$Bytes" "length" "I") (by decide +kernel)) (fun _ h9 => h9) rfl dX0_put_27 ?_
    refine lv_iconst (v := 1) hx hb dX0_put_30 (by decide) ?_
    refine lv_iadd hx hb dX0_put_31 ?_
    refine k_put (ci := 0) (v := .int (v0.2 + (1 : Int32))) (ty := .int) (C := RX0) (T := TX0) (N := 2) (bs1 := [[(a0.1, .inr (0, [.ref a0.2, .int (v0.2 + (1 : Int32))]))], [(a0.2, .inl (cA, v0.1.1, .inl f4))]]) hx hb hts hown hz hw (by decide +kernel) tyX0 tyX0_ok nmX0 0 rfl rfl 1 (by decide) (hts (.fieldLink RX0 21 "OccupancyMonitor$Bytes" "length" "I") (by decide +kernel)) (fun _ h9 => h9) rfl (by decide +kernel) rfl rfl (Nat.le_of_ble_eq_true rfl) dX0_put_32 rfl (fun H locs hw => ?_)
    have hsp := Option.some.inj hsp
    subst hsp
    have hw : ww A s.heap D [w0 cA a0 ((v0.1.1, f4), (v0.2 + (1 : Int32)))] H locs := hw
    subst hQ
    exact k_vret hx hb hr hlk hw dX0_put_35
noncomputable def sX0_putNumber (v0 : V0) (p1 : Int32) : Option (V0) := (((if p1 < (10 : Int32) then (some v0) else ((sX0_put v0 ((48 : Int32) + (p1 / (10 : Int32)))).bind (fun o6 => (some o6)))) : Option (V0)).bind (fun j3 => ((sX0_put j3 ((48 : Int32) + (p1 - p1 / (10 : Int32) * (10 : Int32)))).bind (fun o4 => (some o4)))))
abbrev rX0_putNumber : Room := { frames := 2, cells := 0, slots := 0, locals := 42 }
set_option maxHeartbeats 4000000 in
set_option maxRecDepth 100000 in
theorem mX0_putNumber (l : Launch) (D : va_G) (cA cR : ClassId) (a0 : A0) (v0 : V0) (p1 : Int32) (o : V0) (hsp : sX0_putNumber v0 p1 = some o) : MI l yX0_putNumber wsX0_putNumber rX0_putNumber D cA cR [.ref a0.1, .int p1] [w0 cA a0 v0] none [w0 cA a0 o] 0 0 := by
  have hsp : (((if p1 < (10 : Int32) then (some v0) else ((sX0_put v0 ((48 : Int32) + (p1 / (10 : Int32)))).bind (fun o6 => (some o6)))) : Option (V0)).bind (fun j3 => ((sX0_put j3 ((48 : Int32) + (p1 - p1 / (10 : Int32) * (10 : Int32)))).bind (fun o4 => (some o4))))) = some o := hsp
  refine MI.ofW (cc := cX0_putNumber) (maxL := 2) (ret := none) (by decide) rfl (Nat.le_of_ble_eq_true rfl) ?_
  intro p e s m args below meth c A ls Q H locs hx hb hr hlk hml hown hnm hts hz hA hQ hw hl
  have hl : lv_has ls 2 [(0, .ref a0.1), (1, .int p1)] := hl
  have hw : ww A s.heap D [w0 cA a0 v0] H locs := hw
  refine lv_iload_n hx hb dX0_putNumber_0 rfl (lv_at hl 1 rfl) ?_
  refine lv_bipush (v := 10) hx hb dX0_putNumber_1 (by decide) ?_
  obtain ⟨j3, hsj3, hkj3⟩ := bnd_of hsp
  have Jj3 : ∀ (H : Heap) (locs : List Loc) (ls : Array Slot), ww A s.heap D [w0 cA a0 j3] H locs → lv_has ls 2 [(0, .ref a0.1), (1, .int p1)] → W p l e rX0_putNumber s m args below meth c H locs 0 0 Q (F0 m 17 ls []) := by
    intro H locs ls hw hl
    have hsp := hkj3
    refine lv_aload_n hx hb dX0_putNumber_17 rfl (lv_at hl 0 rfl) ?_
    refine lv_bipush (v := 48) hx hb dX0_putNumber_18 (by decide) ?_
    refine lv_iload_n hx hb dX0_putNumber_20 rfl (lv_at hl 1 rfl) ?_
    refine lv_bipush (v := 10) hx hb dX0_putNumber_21 (by decide) ?_
    refine lv_irem hx hb dX0_putNumber_23 (by decide) ?_
    refine lv_iadd hx hb dX0_putNumber_24 ?_
    obtain ⟨o4, hso4, hsp⟩ := bnd_of hsp
    refine k_callV (ci := 0) (C := RX0) (T := TX0) (N := 2) (nA := 1) (As := [.int ((48 : Int32) + (p1 - p1 / (10 : Int32) * (10 : Int32)))]) (cs := [w0 cA a0 j3]) (rs := []) (cs1 := [w0 cA a0 o4]) (bs1 := [w0 cA a0 o4]) (rest := []) (st1 := []) ⟨hx, hb, hml, hown, hts⟩ hz hw hA (mX0_put l D cA cR a0 j3 ((48 : Int32) + (p1 - p1 / (10 : Int32) * (10 : Int32))) o4 hso4) gX0_putNumber_X0_put rfl rfl rfl (by decide +kernel) rfl ⟨Nat.le_of_ble_eq_true rfl, Nat.le_of_ble_eq_true rfl⟩ rfl rfl hl.1 rfl (Nat.le_of_ble_eq_true rfl) dX0_putNumber_25 ⟨Nat.le_of_ble_eq_true rfl, Nat.le_of_ble_eq_true rfl⟩ [0] [] [0] rfl rfl rfl rfl rfl rfl (fun H locs hw => ?_)
    have hsp := Option.some.inj hsp
    subst hsp
    have hw : ww A s.heap D [w0 cA a0 o4] H locs := hw
    subst hQ
    exact k_vret hx hb hr hlk hw dX0_putNumber_28
  have hsp := hsj3
  refine lv_icmp_lt (tgt := 17) hx hb dX0_putNumber_3 (by decide) (fun c5 => ?_) (fun c5 => ?_)
  · have hsp := ift c5 hsp
    have hsp := Option.some.inj hsp
    subst hsp
    exact Jj3 _ _ _ hw (lv_sub hl [0, 1] rfl)
  · have hsp := iff_ c5 hsp
    refine lv_aload_n hx hb dX0_putNumber_6 rfl (lv_at hl 0 rfl) ?_
    refine lv_bipush (v := 48) hx hb dX0_putNumber_7 (by decide) ?_
    refine lv_iload_n hx hb dX0_putNumber_9 rfl (lv_at hl 1 rfl) ?_
    refine lv_bipush (v := 10) hx hb dX0_putNumber_10 (by decide) ?_
    refine lv_idiv hx hb dX0_putNumber_12 (by decide) ?_
    refine lv_iadd hx hb dX0_putNumber_13 ?_
    obtain ⟨o6, hso6, hsp⟩ := bnd_of hsp
    refine k_callV (ci := 0) (C := RX0) (T := TX0) (N := 2) (nA := 1) (As := [.int ((48 : Int32) + (p1 / (10 : Int32)))]) (cs := [w0 cA a0 v0]) (rs := []) (cs1 := [w0 cA a0 o6]) (bs1 := [w0 cA a0 o6]) (rest := []) (st1 := []) ⟨hx, hb, hml, hown, hts⟩ hz hw hA (mX0_put l D cA cR a0 v0 ((48 : Int32) + (p1 / (10 : Int32))) o6 hso6) gX0_putNumber_X0_put rfl rfl rfl (by decide +kernel) rfl ⟨Nat.le_of_ble_eq_true rfl, Nat.le_of_ble_eq_true rfl⟩ rfl rfl hl.1 rfl (Nat.le_of_ble_eq_true rfl) dX0_putNumber_14 ⟨Nat.le_of_ble_eq_true rfl, Nat.le_of_ble_eq_true rfl⟩ [0] [] [0] rfl rfl rfl rfl rfl rfl (fun H locs hw => ?_)
    have hsp := Option.some.inj hsp
    subst hsp
    exact Jj3 _ _ _ hw (lv_sub hl [0, 1] rfl)
