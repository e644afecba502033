noncomputable def sX7_add (v0 : V7) (p1 : Int32) : Option (Int32 × V7) := ((sX9_set v0.1 v0.2 (0 : Int32) p1).bind (fun o1 => (some (v0.2, (o1, (v0.2 + (1 : Int32)))))))
abbrev rX7_add : Room := { frames := 1, cells := 0, slots := 0, locals := 23 }
set_option maxHeartbeats 4000000 in
set_option maxRecDepth 100000 in
theorem mX7_add (l : Launch) (D : va_G) (cA cR : ClassId) (a0 : A7) (v0 : V7) (p1 : Int32) (o : Int32 × V7) (hsp : sX7_add v0 p1 = some o) : MI l yX7_add wsX7_add rX7_add D cA cR [.ref a0.1, .int p1] [w7 cA a0 v0] (some (.int o.1)) [w7 cA a0 o.2] 0 0 := by
  have hsp : ((sX9_set v0.1 v0.2 (0 : Int32) p1).bind (fun o1 => (some (v0.2, (o1, (v0.2 + (1 : Int32))))))) = some o := hsp
  refine MI.ofW (cc := cX7_add) (maxL := 3) (ret := (some .int)) (by decide) rfl (Nat.le_of_ble_eq_true rfl) ?_
  intro p e s m args below meth c A ls Q H locs hx hb hr hlk hml hown hnm hts hz hA hQ hw hl
  have hl : lv_has ls 3 [(0, .ref a0.1), (1, .int p1)] := hl
  have hw : ww A s.heap D [[(a0.1, .inr (7, [.ref a0.2.1, .int v0.2]))], w9 cA a0.2 v0.1] H locs := hw
  refine lv_aload_n hx hb dX7_add_0 rfl (lv_at hl 0 rfl) ?_
  refine k_get (ci := 7) (v := .int v0.2) (C := RX7) (T := TX7) (N := 2) hx hb hts hown hz hw (by decide +kernel) 0 rfl rfl 1 (by decide) (hts (.fieldLink RX7 20 "OccupancyMonitor$Signals" "count" "I") (by decide +kernel)) (fun _ h9 => h9) rfl dX7_add_1 ?_
  refine lv_istore_n (lv' := [(2, .int v0.2), (0, .ref a0.1), (1, .int p1)]) hx hb dX7_add_4 rfl hl (by decide) rfl (fun ls hl => ?_)
  refine lv_aload_n hx hb dX7_add_5 rfl (lv_at hl 1 rfl) ?_
  refine k_get (ci := 7) (v := .ref a0.2.1) (C := RX7) (T := TX7) (N := 2) hx hb hts hown hz hw (by decide +kernel) 0 rfl rfl 0 (by decide) (hts (.fieldLink RX7 14 "OccupancyMonitor$Signals" "table" "LOccupancyMonitor$Table;") (by decide +kernel)) (fun _ h9 => h9) rfl dX7_add_6 ?_
  refine lv_iload_n hx hb dX7_add_9 rfl (lv_at hl 0 rfl) ?_
  refine lv_iconst (v := 0) hx hb dX7_add_10 (by decide) ?_
  refine lv_iload_n hx hb dX7_add_11 rfl (lv_at hl 2 rfl) ?_
  obtain ⟨o1, hso1, hsp⟩ := bnd_of hsp
  refine k_callV (ci := 9) (C := RX9) (T := TX9) (N := 3) (nA := 3) (As := [.int v0.2, .int (0 : Int32), .int p1]) (cs := [w9 cA a0.2 v0.1]) (rs := [[(a0.1, .inr (7, [.ref a0.2.1, .int v0.2]))]]) (cs1 := [w9 cA a0.2 o1]) (bs1 := [[(a0.1, .inr (7, [.ref a0.2.1, .int v0.2]))], w9 cA a0.2 o1]) (rest := []) (st1 := []) ⟨hx, hb, hml, hown, hts⟩ hz hw hA (mX9_set l D cA cR a0.2 v0.1 v0.2 (0 : Int32) p1 o1 hso1) gX7_add_X9_set rfl rfl rfl (by decide +kernel) rfl ⟨Nat.le_of_ble_eq_true rfl, Nat.le_of_ble_eq_true rfl⟩ rfl rfl hl.1 rfl (Nat.le_of_ble_eq_true rfl) dX7_add_12 ⟨Nat.le_of_ble_eq_true rfl, Nat.le_of_ble_eq_true rfl⟩ [1] [0] [0, 1] rfl rfl rfl rfl rfl rfl (fun H locs hw => ?_)
  refine lv_aload_n hx hb dX7_add_15 rfl (lv_at hl 1 rfl) ?_
  refine lv_dup hx hb dX7_add_16 rfl ?_
  refine k_get (ci := 7) (v := .int v0.2) (C := RX7) (T := TX7) (N := 2) hx hb hts hown hz hw (by decide +kernel) 0 rfl rfl 1 (by decide) (hts (.fieldLink RX7 20 "OccupancyMonitor$Signals" "count" "I") (by decide +kernel)) (fun _ h9 => h9) rfl dX7_add_17 ?_
  refine lv_iconst (v := 1) hx hb dX7_add_20 (by decide) ?_
  refine lv_iadd hx hb dX7_add_21 ?_
  refine k_put (ci := 7) (v := .int (v0.2 + (1 : Int32))) (ty := .int) (C := RX7) (T := TX7) (N := 2) (bs1 := [[(a0.1, .inr (7, [.ref a0.2.1, .int (v0.2 + (1 : Int32))]))], w9 cA a0.2 o1]) hx hb hts hown hz hw (by decide +kernel) tyX7 tyX7_ok nmX7 0 rfl rfl 1 (by decide) (hts (.fieldLink RX7 20 "OccupancyMonitor$Signals" "count" "I") (by decide +kernel)) (fun _ h9 => h9) rfl (by decide +kernel) rfl rfl (Nat.le_of_ble_eq_true rfl) dX7_add_22 rfl (fun H locs hw => ?_)
  refine lv_iload_n hx hb dX7_add_25 rfl (lv_at hl 0 rfl) ?_
  have hsp := Option.some.inj hsp
  subst hsp
  have hw : ww A s.heap D [w7 cA a0 (o1, (v0.2 + (1 : Int32)))] H locs := hw
  subst hQ
  exact k_iret hx hb hr hlk hw dX7_add_26
noncomputable def sX7_put (v0 : V7) (p1 : Int32) (p2 : Int32) (p3 : Int32) : Option (V7) := ((sX9_set v0.1 p1 p2 p3).bind (fun o1 => (some (o1, v0.2))))
abbrev rX7_put : Room := { frames := 1, cells := 0, slots := 0, locals := 23 }
set_option maxHeartbeats 4000000 in
set_option maxRecDepth 100000 in
theorem mX7_put (l : Launch) (D : va_G) (cA cR : ClassId) (a0 : A7) (v0 : V7) (p1 : Int32) (p2 : Int32) (p3 : Int32) (o : V7) (hsp : sX7_put v0 p1 p2 p3 = some o) : MI l yX7_put wsX7_put rX7_put D cA cR [.ref a0.1, .int p1, .int p2, .int p3] [w7 cA a0 v0] none [w7 cA a0 o] 0 0 := by
  have hsp : ((sX9_set v0.1 p1 p2 p3).bind (fun o1 => (some (o1, v0.2)))) = some o := hsp
  refine MI.ofW (cc := cX7_put) (maxL := 4) (ret := none) (by decide) rfl (Nat.le_of_ble_eq_true rfl) ?_
  intro p e s m args below meth c A ls Q H locs hx hb hr hlk hml hown hnm hts hz hA hQ hw hl
  have hl : lv_has ls 4 [(0, .ref a0.1), (1, .int p1), (2, .int p2), (3, .int p3)] := hl
  have hw : ww A s.heap D [[(a0.1, .inr (7, [.ref a0.2.1, .int v0.2]))], w9 cA a0.2 v0.1] H locs := hw
  refine lv_aload_n hx hb dX7_put_0 rfl (lv_at hl 0 rfl) ?_
  refine k_get (ci := 7) (v := .ref a0.2.1) (C := RX7) (T := TX7) (N := 2) hx hb hts hown hz hw (by decide +kernel) 0 rfl rfl 0 (by decide) (hts (.fieldLink RX7 14 "OccupancyMonitor$Signals" "table" "LOccupancyMonitor$Table;") (by decide +kernel)) (fun _ h9 => h9) rfl dX7_put_1 ?_
  refine lv_iload_n hx hb dX7_put_4 rfl (lv_at hl 1 rfl) ?_
  refine lv_iload_n hx hb dX7_put_5 rfl (lv_at hl 2 rfl) ?_
  refine lv_iload_n hx hb dX7_put_6 rfl (lv_at hl 3 rfl) ?_
  obtain ⟨o1, hso1, hsp⟩ := bnd_of hsp
  refine k_callV (ci := 9) (C := RX9) (T := TX9) (N := 3) (nA := 3) (As := [.int p1, .int p2, .int p3]) (cs := [w9 cA a0.2 v0.1]) (rs := [[(a0.1, .inr (7, [.ref a0.2.1, .int v0.2]))]]) (cs1 := [w9 cA a0.2 o1]) (bs1 := [[(a0.1, .inr (7, [.ref a0.2.1, .int v0.2]))], w9 cA a0.2 o1]) (rest := []) (st1 := []) ⟨hx, hb, hml, hown, hts⟩ hz hw hA (mX9_set l D cA cR a0.2 v0.1 p1 p2 p3 o1 hso1) gX7_put_X9_set rfl rfl rfl (by decide +kernel) rfl ⟨Nat.le_of_ble_eq_true rfl, Nat.le_of_ble_eq_true rfl⟩ rfl rfl hl.1 rfl (Nat.le_of_ble_eq_true rfl) dX7_put_7 ⟨Nat.le_of_ble_eq_true rfl, Nat.le_of_ble_eq_true rfl⟩ [1] [0] [0, 1] rfl rfl rfl rfl rfl rfl (fun H locs hw => ?_)
  have hsp := Option.some.inj hsp
  subst hsp
  have hw : ww A s.heap D [w7 cA a0 (o1, v0.2)] H locs := hw
  subst hQ
  exact k_vret hx hb hr hlk hw dX7_put_10
noncomputable def sX7_remove (v0 : V7) (p1 : Int32) : Option (V7) := ((sX9_removeRow v0.1 p1).bind (fun o1 => (some (o1, (v0.2 - (1 : Int32))))))
abbrev rX7_remove : Room := { frames := 2, cells := 0, slots := 0, locals := 48 }
set_option maxHeartbeats 4000000 in
set_option maxRecDepth 100000 in
theorem mX7_remove (l : Launch) (D : va_G) (cA cR : ClassId) (a0 : A7) (v0 : V7) (p1 : Int32) (o : V7) (hsp : sX7_remove v0 p1 = some o) : MI l yX7_remove wsX7_remove rX7_remove D cA cR [.ref a0.1, .int p1] [w7 cA a0 v0] none [w7 cA a0 o] 0 0 := by
  have hsp : ((sX9_removeRow v0.1 p1).bind (fun o1 => (some (o1, (v0.2 - (1 : Int32)))))) = some o := hsp
  refine MI.ofW (cc := cX7_remove) (maxL := 2) (ret := none) (by decide) rfl (Nat.le_of_ble_eq_true rfl) ?_
  intro p e s m args below meth c A ls Q H locs hx hb hr hlk hml hown hnm hts hz hA hQ hw hl
  have hl : lv_has ls 2 [(0, .ref a0.1), (1, .int p1)] := hl
  have hw : ww A s.heap D [[(a0.1, .inr (7, [.ref a0.2.1, .int v0.2]))], w9 cA a0.2 v0.1] H locs := hw
  refine lv_aload_n hx hb dX7_remove_0 rfl (lv_at hl 0 rfl) ?_
  refine k_get (ci := 7) (v := .ref a0.2.1) (C := RX7) (T := TX7) (N := 2) hx hb hts hown hz hw (by decide +kernel) 0 rfl rfl 0 (by decide) (hts (.fieldLink RX7 14 "OccupancyMonitor$Signals" "table" "LOccupancyMonitor$Table;") (by decide +kernel)) (fun _ h9 => h9) rfl dX7_remove_1 ?_
  refine lv_iload_n hx hb dX7_remove_4 rfl (lv_at hl 1 rfl) ?_
  obtain ⟨o1, hso1, hsp⟩ := bnd_of hsp
  refine k_callV (ci := 9) (C := RX9) (T := TX9) (N := 3) (nA := 1) (As := [.int p1]) (cs := [w9 cA a0.2 v0.1]) (rs := [[(a0.1, .inr (7, [.ref a0.2.1, .int v0.2]))]]) (cs1 := [w9 cA a0.2 o1]) (bs1 := [[(a0.1, .inr (7, [.ref a0.2.1, .int v0.2]))], w9 cA a0.2 o1]) (rest := []) (st1 := []) ⟨hx, hb, hml, hown, hts⟩ hz hw hA (mX9_removeRow l D cA cR a0.2 v0.1 p1 o1 hso1) gX7_remove_X9_removeRow rfl rfl rfl (by decide +kernel) rfl ⟨Nat.le_of_ble_eq_true rfl, Nat.le_of_ble_eq_true rfl⟩ rfl rfl hl.1 rfl (Nat.le_of_ble_eq_true rfl) dX7_remove_5 ⟨Nat.le_of_ble_eq_true rfl, Nat.le_of_ble_eq_true rfl⟩ [1] [0] [0, 1] rfl rfl rfl rfl rfl rfl (fun H locs hw => ?_)
  refine lv_aload_n hx hb dX7_remove_8 rfl (lv_at hl 0 rfl) ?_
  refine lv_dup hx hb dX7_remove_9 rfl ?_
  refine k_get (ci := 7) (v := .int v0.2) (C := RX7) (T := TX7) (N := 2) hx hb hts hown hz hw (by decide +kernel) 0 rfl rfl 1 (by decide) (hts (.fieldLink RX7 20 "OccupancyMonitor$Signals" "count" "I") (by decide +kernel)) (fun _ h9 => h9) rfl dX7_remove_10 ?_
  refine lv_iconst (v := 1) hx hb dX7_remove_13 (by decide) ?_
  refine lv_isub hx hb dX7_remove_14 ?_
  refine k_put (ci := 7) (v := .int (v0.2 - (1 : Int32))) (ty := .int) (C := RX7) (T := TX7) (N := 2) (bs1 := [[(a0.1, .inr (7, [.ref a0.2.1, .int (v0.2 - (1 : Int32))]))], w9 cA a0.2 o1]) hx hb hts hown hz hw (by decide +kernel) tyX7 tyX7_ok nmX7 0 rfl rfl 1 (by decide) (hts (.fieldLink RX7 20 "OccupancyMonitor$Signals" "count" "I") (by decide +kernel)) (fun _ h9 => h9) rfl (by decide +kernel) rfl rfl (Nat.le_of_ble_eq_true rfl) dX7_remove_15 rfl (fun H locs hw => ?_)
  have hsp := Option.some.inj hsp
  subst hsp
  have hw : ww A s.heap D [w7 cA a0 (o1, (v0.2 - (1 : Int32)))] H locs := hw
  subst hQ
  exact k_vret hx hb hr hlk hw dX7_remove_18
noncomputable def sX7_pulsedChannel (v0 : V7) (p1 : Int32) (p2 : Int32) : Option (Int32) := ((sX9_get v0.1 p1 (3 : Int32)).bind (fun o1 => ((sX9_get v0.1 p1 (5 : Int32)).bind (fun o2 => (if (p2 - o1) < 0 then (some (-1 : Int32)) else (if (1 : Int32) ≤ o2 then (grd (¬ o2 = 0) ((sX9_get v0.1 p1 (4 : Int32)).bind (fun o6 => (((if o6 ≤ ((p2 - o1) - (p2 - o1) / o2 * o2) then (some (0 : Int32)) else (some (1 : Int32))) : Option (Int32)).bind (fun j8 => (if j8 = 0 then (some (-1 : Int32)) else ((sX9_get v0.1 p1 (1 : Int32)).bind (fun o10 => (some o10))))))))) else (some (-1 : Int32))))))))
abbrev rX7_pulsedChannel : Room := { frames := 1, cells := 0, slots := 0, locals := 22 }
set_option maxHeartbeats 4000000 in
set_option maxRecDepth 100000 in
theorem mX7_pulsedChannel (l : Launch) (D : va_G) (cA cR : ClassId) (a0 : A7) (v0 : V7) (p1 : Int32) (p2 : Int32) (o : Int32) (hsp : sX7_pulsedChannel v0 p1 p2 = some o) : MI l yX7_pulsedChannel wsX7_pulsedChannel rX7_pulsedChannel D cA cR [.ref a0.1, .int p1, .int p2] [w7 cA a0 v0] (some (.int o)) [w7 cA a0 v0] 0 0 := by
  have hsp : ((sX9_get v0.1 p1 (3 : Int32)).bind (fun o1 => ((sX9_get v0.1 p1 (5 : Int32)).bind (fun o2 => (if (p2 - o1) < 0 then (some (-1 : Int32)) else (if (1 : Int32) ≤ o2 then (grd (¬ o2 = 0) ((sX9_get v0.1 p1 (4 : Int32)).bind (fun o6 => (((if o6 ≤ ((p2 - o1) - (p2 - o1) / o2 * o2) then (some (0 : Int32)) else (some (1 : Int32))) : Option (Int32)).bind (fun j8 => (if j8 = 0 then (some (-1 : Int32)) else ((sX9_get v0.1 p1 (1 : Int32)).bind (fun o10 => (some o10))))))))) else (some (-1 : Int32)))))))) = some o := hsp
  refine MI.ofW (cc := cX7_pulsedChannel) (maxL := 6) (ret := (some .int)) (by decide) rfl (Nat.le_of_ble_eq_true rfl) ?_
  intro p e s m args below meth c A ls Q H locs hx hb hr hlk hml hown hnm hts hz hA hQ hw hl
  have hl : lv_has ls 6 [(0, .ref a0.1), (1, .int p1), (2, .int p2)] := hl
  have hw : ww A s.heap D [[(a0.1, .inr (7, [.ref a0.2.1, .int v0.2]))], w9 cA a0.2 v0.1] H locs := hw
  refine lv_iload_n hx hb dX7_pulsedChannel_0 rfl (lv_at hl 2 rfl) ?_
  refine lv_aload_n hx hb dX7_pulsedChannel_1 rfl (lv_at hl 0 rfl) ?_
  refine k_get (ci := 7) (v := .ref a0.2.1) (C := RX7) (T := TX7) (N := 2) hx hb hts hown hz hw (by decide +kernel) 0 rfl rfl 0 (by decide) (hts (.fieldLink RX7 14 "OccupancyMonitor$Signals" "table" "LOccupancyMonitor$Table;") (by decide +kernel)) (fun _ h9 => h9) rfl dX7_pulsedChannel_2 ?_
  refine lv_iload_n hx hb dX7_pulsedChannel_5 rfl (lv_at hl 1 rfl) ?_
  refine lv_iconst (v := 3) hx hb dX7_pulsedChannel_6 (by decide) ?_
  obtain ⟨o1, hso1, hsp⟩ := bnd_of hsp
  refine k_callV (ci := 9) (C := RX9) (T := TX9) (N := 3) (nA := 2) (As := [.int p1, .int (3 : Int32)]) (cs := [w9 cA a0.2 v0.1]) (rs := [[(a0.1, .inr (7, [.ref a0.2.1, .int v0.2]))]]) (cs1 := [w9 cA a0.2 v0.1]) (bs1 := [[(a0.1, .inr (7, [.ref a0.2.1, .int v0.2]))], w9 cA a0.2 v0.1]) (rest := [.int p2]) (st1 := [.int o1, .int p2]) ⟨hx, hb, hml, hown, hts⟩ hz hw hA (mX9_get l D cA cR a0.2 v0.1 p1 (3 : Int32) o1 hso1) gX7_pulsedChannel_X9_get rfl rfl rfl (by decide +kernel) rfl ⟨Nat.le_of_ble_eq_true rfl, Nat.le_of_ble_eq_true rfl⟩ rfl rfl hl.1 rfl (Nat.le_of_ble_eq_true rfl) dX7_pulsedChannel_7 ⟨Nat.le_of_ble_eq_true rfl, Nat.le_of_ble_eq_true rfl⟩ [1] [0] [0, 1] rfl rfl rfl rfl rfl rfl (fun H locs hw => ?_)
  refine lv_isub hx hb dX7_pulsedChannel_10 ?_
  refine lv_istore_n (lv' := [(3, .int (p2 - o1)), (0, .ref a0.1), (1, .int p1), (2, .int p2)]) hx hb dX7_pulsedChannel_11 rfl hl (by decide) rfl (fun ls hl => ?_)
  refine lv_aload_n hx hb dX7_pulsedChannel_12 rfl (lv_at hl 1 rfl) ?_
  refine k_get (ci := 7) (v := .ref a0.2.1) (C := RX7) (T := TX7) (N := 2) hx hb hts hown hz hw (by decide +kernel) 0 rfl rfl 0 (by decide) (hts (.fieldLink RX7 14 "OccupancyMonitor$Signals" "table" "LOccupancyMonitor$Table;") (by decide +kernel)) (fun _ h9 => h9) rfl dX7_pulsedChannel_13 ?_
  refine lv_iload_n hx hb dX7_pulsedChannel_16 rfl (lv_at hl 2 rfl) ?_
  refine lv_iconst (v := 5) hx hb dX7_pulsedChannel_17 (by decide) ?_
  obtain ⟨o2, hso2, hsp⟩ := bnd_of hsp
  refine k_callV (ci := 9) (C := RX9) (T := TX9) (N := 3) (nA := 2) (As := [.int p1, .int (5 : Int32)]) (cs := [w9 cA a0.2 v0.1]) (rs := [[(a0.1, .inr (7, [.ref a0.2.1, .int v0.2]))]]) (cs1 := [w9 cA a0.2 v0.1]) (bs1 := [[(a0.1, .inr (7, [.ref a0.2.1, .int v0.2]))], w9 cA a0.2 v0.1]) (rest := []) (st1 := [.int o2]) ⟨hx, hb, hml, hown, hts⟩ hz hw hA (mX9_get l D cA cR a0.2 v0.1 p1 (5 : Int32) o2 hso2) gX7_pulsedChannel_X9_get rfl rfl rfl (by decide +kernel) rfl ⟨Nat.le_of_ble_eq_true rfl, Nat.le_of_ble_eq_true rfl⟩ rfl rfl hl.1 rfl (Nat.le_of_ble_eq_true rfl) dX7_pulsedChannel_18 ⟨Nat.le_of_ble_eq_true rfl, Nat.le_of_ble_eq_true rfl⟩ [1] [0] [0, 1] rfl rfl rfl rfl rfl rfl (fun H locs hw => ?_)
  refine lv_istore (lv' := [(4, .int o2), (3, .int (p2 - o1)), (0, .ref a0.1), (1, .int p1), (2, .int p2)]) hx hb dX7_pulsedChannel_21 hl (by decide) rfl (fun ls hl => ?_)
  refine lv_iload_n hx hb dX7_pulsedChannel_23 rfl (lv_at hl 1 rfl) ?_
  refine lv_if_lt (tgt := 33) hx hb dX7_pulsedChannel_24 (by decide) (fun c3 => ?_) (fun c3 => ?_)
  · have hsp := ift c3 hsp
    refine lv_iconst (v := -1) hx hb dX7_pulsedChannel_33 (by decide) ?_
    have hsp := Option.some.inj hsp
    subst hsp
    have hw : ww A s.heap D [w7 cA a0 v0] H locs := hw
    subst hQ
    exact k_iret hx hb hr hlk hw dX7_pulsedChannel_34
  · have hsp := iff_ c3 hsp
    refine lv_iload hx hb dX7_pulsedChannel_27 (lv_at hl 0 rfl) ?_
    refine lv_iconst (v := 1) hx hb dX7_pulsedChannel_29 (by decide) ?_
    refine lv_icmp_ge (tgt := 35) hx hb dX7_pulsedChannel_30 (by decide) (fun c4 => ?_) (fun c4 => ?_)
    · have hsp := ift c4 hsp
      refine lv_iload_n hx hb dX7_pulsedChannel_35 rfl (lv_at hl 1 rfl) ?_
      refine lv_iload hx hb dX7_pulsedChannel_36 (lv_at hl 0 rfl) ?_
      obtain ⟨g5, hsp⟩ := grd_of hsp
      refine lv_irem hx hb dX7_pulsedChannel_38 g5 ?_
      refine lv_aload_n hx hb dX7_pulsedChannel_39 rfl (lv_at hl 2 rfl) ?_
      refine k_get (ci := 7) (v := .ref a0.2.1) (C := RX7) (T := TX7) (N := 2) hx hb hts hown hz hw (by decide +kernel) 0 rfl rfl 0 (by decide) (hts (.fieldLink RX7 14 "OccupancyMonitor$Signals" "table" "LOccupancyMonitor$Table;") (by decide +kernel)) (fun _ h9 => h9) rfl dX7_pulsedChannel_40 ?_
      refine lv_iload_n hx hb dX7_pulsedChannel_43 rfl (lv_at hl 3 rfl) ?_
      refine lv_iconst (v := 4) hx hb dX7_pulsedChannel_44 (by decide) ?_
      obtain ⟨o6, hso6, hsp⟩ := bnd_of hsp
      refine k_callV (ci := 9) (C := RX9) (T := TX9) (N := 3) (nA := 2) (As := [.int p1, .int (4 : Int32)]) (cs := [w9 cA a0.2 v0.1]) (rs := [[(a0.1, .inr (7, [.ref a0.2.1, .int v0.2]))]]) (cs1 := [w9 cA a0.2 v0.1]) (bs1 := [[(a0.1, .inr (7, [.ref a0.2.1, .int v0.2]))], w9 cA a0.2 v0.1]) (rest := [.int ((p2 - o1) - (p2 - o1) / o2 * o2)]) (st1 := [.int o6, .int ((p2 - o1) - (p2 - o1) / o2 * o2)]) ⟨hx, hb, hml, hown, hts⟩ hz hw hA (mX9_get l D cA cR a0.2 v0.1 p1 (4 : Int32) o6 hso6) gX7_pulsedChannel_X9_get rfl rfl rfl (by decide +kernel) rfl ⟨Nat.le_of_ble_eq_true rfl, Nat.le_of_ble_eq_true rfl⟩ rfl rfl hl.1 rfl (Nat.le_of_ble_eq_true rfl) dX7_pulsedChannel_45 ⟨Nat.le_of_ble_eq_true rfl, Nat.le_of_ble_eq_true rfl⟩ [1] [0] [0, 1] rfl rfl rfl rfl rfl rfl (fun H locs hw => ?_)
      obtain ⟨j8, hsj8, hkj8⟩ := bnd_of hsp
      have Jj8 : ∀ (H : Heap) (locs : List Loc) (ls : Array Slot), ww A s.heap D [[(a0.1, .inr (7, [.ref a0.2.1, .int v0.2]))], w9 cA a0.2 v0.1] H locs → lv_has ls 6 [(0, .ref a0.1), (1, .int p1), (2, .int p2), (3, .int (p2 - o1)), (4, .int o2)] → W p l e rX7_pulsedChannel s m args below meth c H locs 0 0 Q (F0 m 56 ls [.int j8]) := by
        intro H locs ls hw hl
        have hsp := hkj8
        refine lv_istore (lv' := [(5, .int j8), (0, .ref a0.1), (1, .int p1), (2, .int p2), (3, .int (p2 - o1)), (4, .int o2)]) hx hb dX7_pulsedChannel_56 hl (by decide) rfl (fun ls hl => ?_)
        refine lv_iload hx hb dX7_pulsedChannel_58 (lv_at hl 0 rfl) ?_
        refine lv_if_eq (tgt := 75) hx hb dX7_pulsedChannel_60 (by decide) (fun c9 => ?_) (fun c9 => ?_)
        · have hsp := ift c9 hsp
          refine lv_iconst (v := -1) hx hb dX7_pulsedChannel_75 (by decide) ?_
          have hsp := Option.some.inj hsp
          subst hsp
          have hw : ww A s.heap D [w7 cA a0 v0] H locs := hw
          subst hQ
          exact k_iret hx hb hr hlk hw dX7_pulsedChannel_76
        · have hsp := iff_ c9 hsp
          refine lv_aload_n hx hb dX7_pulsedChannel_63 rfl (lv_at hl 1 rfl) ?_
          refine k_get (ci := 7) (v := .ref a0.2.1) (C := RX7) (T := TX7) (N := 2) hx hb hts hown hz hw (by decide +kernel) 0 rfl rfl 0 (by decide) (hts (.fieldLink RX7 14 "OccupancyMonitor$Signals" "table" "LOccupancyMonitor$Table;") (by decide +kernel)) (fun _ h9 => h9) rfl dX7_pulsedChannel_64 ?_
          refine lv_iload_n hx hb dX7_pulsedChannel_67 rfl (lv_at hl 2 rfl) ?_
          refine lv_iconst (v := 1) hx hb dX7_pulsedChannel_68 (by decide) ?_
          obtain ⟨o10, hso10, hsp⟩ := bnd_of hsp
          refine k_callV (ci := 9) (C := RX9) (T := TX9) (N := 3) (nA := 2) (As := [.int p1, .int (1 : Int32)]) (cs := [w9 cA a0.2 v0.1]) (rs := [[(a0.1, .inr (7, [.ref a0.2.1, .int v0.2]))]]) (cs1 := [w9 cA a0.2 v0.1]) (bs1 := [[(a0.1, .inr (7, [.ref a0.2.1, .int v0.2]))], w9 cA a0.2 v0.1]) (rest := []) (st1 := [.int o10]) ⟨hx, hb, hml, hown, hts⟩ hz hw hA (mX9_get l D cA cR a0.2 v0.1 p1 (1 : Int32) o10 hso10) gX7_pulsedChannel_X9_get rfl rfl rfl (by decide +kernel) rfl ⟨Nat.le_of_ble_eq_true rfl, Nat.le_of_ble_eq_true rfl⟩ rfl rfl hl.1 rfl (Nat.le_of_ble_eq_true rfl) dX7_pulsedChannel_69 ⟨Nat.le_of_ble_eq_true rfl, Nat.le_of_ble_eq_true rfl⟩ [1] [0] [0, 1] rfl rfl rfl rfl rfl rfl (fun H locs hw => ?_)
          refine lv_goto (tgt := 76) hx hb dX7_pulsedChannel_72 (by decide) ?_
          have hsp := Option.some.inj hsp
          subst hsp
          have hw : ww A s.heap D [w7 cA a0 v0] H locs := hw
          subst hQ
          exact k_iret hx hb hr hlk hw dX7_pulsedChannel_76
      have hsp := hsj8
      refine lv_icmp_ge (tgt := 55) hx hb dX7_pulsedChannel_48 (by decide) (fun c11 => ?_) (fun c11 => ?_)
      · have hsp := ift c11 hsp
        refine lv_iconst (v := 0) hx hb dX7_pulsedChannel_55 (by decide) ?_
        have hsp := Option.some.inj hsp
        subst hsp
        exact Jj8 _ _ _ hw (lv_sub hl [2, 3, 4, 1, 0] rfl)
      · have hsp := iff_ c11 hsp
        refine lv_iconst (v := 1) hx hb dX7_pulsedChannel_51 (by decide) ?_
        refine lv_goto (tgt := 56) hx hb dX7_pulsedChannel_52 (by decide) ?_
        have hsp := Option.some.inj hsp
        subst hsp
        exact Jj8 _ _ _ hw (lv_sub hl [2, 3, 4, 1, 0] rfl)
    · have hsp := iff_ c4 hsp
      refine lv_iconst (v := -1) hx hb dX7_pulsedChannel_33 (by decide) ?_
      have hsp := Option.some.inj hsp
      subst hsp
      have hw : ww A s.heap D [w7 cA a0 v0] H locs := hw
      subst hQ
      exact k_iret hx hb hr hlk hw dX7_pulsedChannel_34
noncomputable def sX7_hoppingChannel (v0 : V7) (p1 : Int32) (p2 : Int32) : Option (Int32) := ((sX9_get v0.1 p1 (5 : Int32)).bind (fun o1 => ((sX9_get v0.1 p1 (3 : Int32)).bind (fun o2 => (if (p2 - o1) < 0 then (some (-1 : Int32)) else (if (1 : Int32) ≤ o2 then ((sX9_get v0.1 p1 (2 : Int32)).bind (fun o5 => (grd (¬ o2 = 0) ((sX9_get v0.1 p1 (1 : Int32)).bind (fun o7 => (some ((o7 + (o5 * ((p2 - o1) / o2))) - (o7 + (o5 * ((p2 - o1) / o2))) / (32 : Int32) * (32 : Int32)))))))) else (some (-1 : Int32))))))))
abbrev rX7_hoppingChannel : Room := { frames := 1, cells := 0, slots := 0, locals := 22 }
set_option maxHeartbeats 4000000 in
set_option maxRecDepth 100000 in
theorem mX7_hoppingChannel (l : Launch) (D : va_G) (cA cR : ClassId) (a0 : A7) (v0 : V7) (p1 : Int32) (p2 : Int32) (o : Int32) (hsp : sX7_hoppingChannel v0 p1 p2 = some o) : MI l yX7_hoppingChannel wsX7_hoppingChannel rX7_hoppingChannel D cA cR [.ref a0.1, .int p1, .int p2] [w7 cA a0 v0] (some (.int o)) [w7 cA a0 v0] 0 0 := by
  have hsp : ((sX9_get v0.1 p1 (5 : Int32)).bind (fun o1 => ((sX9_get v0.1 p1 (3 : Int32)).bind (fun o2 => (if (p2 - o1) < 0 then (some (-1 : Int32)) else (if (1 : Int32) ≤ o2 then ((sX9_get v0.1 p1 (2 : Int32)).bind (fun o5 => (grd (¬ o2 = 0) ((sX9_get v0.1 p1 (1 : Int32)).bind (fun o7 => (some ((o7 + (o5 * ((p2 - o1) / o2))) - (o7 + (o5 * ((p2 - o1) / o2))) / (32 : Int32) * (32 : Int32)))))))) else (some (-1 : Int32)))))))) = some o := hsp
  refine MI.ofW (cc := cX7_hoppingChannel) (maxL := 6) (ret := (some .int)) (by decide) rfl (Nat.le_of_ble_eq_true rfl) ?_
  intro p e s m args below meth c A ls Q H locs hx hb hr hlk hml hown hnm hts hz hA hQ hw hl
  have hl : lv_has ls 6 [(0, .ref a0.1), (1, .int p1), (2, .int p2)] := hl
  have hw : ww A s.heap D [[(a0.1, .inr (7, [.ref a0.2.1, .int v0.2]))], w9 cA a0.2 v0.1] H locs := hw
  refine lv_iload_n hx hb dX7_hoppingChannel_0 rfl (lv_at hl 2 rfl) ?_
  refine lv_aload_n hx hb dX7_hoppingChannel_1 rfl (lv_at hl 0 rfl) ?_
  refine k_get (ci := 7) (v := .ref a0.2.1) (C := RX7) (T := TX7) (N := 2) hx hb hts hown hz hw (by decide +kernel) 0 rfl rfl 0 (by decide) (hts (.fieldLink RX7 14 "OccupancyMonitor$Signals" "table" "LOccupancyMonitor$Table;") (by decide +kernel)) (fun _ h9 => h9) rfl dX7_hoppingChannel_2 ?_
  refine lv_iload_n hx hb dX7_hoppingChannel_5 rfl (lv_at hl 1 rfl) ?_
  refine lv_iconst (v := 5) hx hb dX7_hoppingChannel_6 (by decide) ?_
  obtain ⟨o1, hso1, hsp⟩ := bnd_of hsp
  refine k_callV (ci := 9) (C := RX9) (T := TX9) (N := 3) (nA := 2) (As := [.int p1, .int (5 : Int32)]) (cs := [w9 cA a0.2 v0.1]) (rs := [[(a0.1, .inr (7, [.ref a0.2.1, .int v0.2]))]]) (cs1 := [w9 cA a0.2 v0.1]) (bs1 := [[(a0.1, .inr (7, [.ref a0.2.1, .int v0.2]))], w9 cA a0.2 v0.1]) (rest := [.int p2]) (st1 := [.int o1, .int p2]) ⟨hx, hb, hml, hown, hts⟩ hz hw hA (mX9_get l D cA cR a0.2 v0.1 p1 (5 : Int32) o1 hso1) gX7_hoppingChannel_X9_get rfl rfl rfl (by decide +kernel) rfl ⟨Nat.le_of_ble_eq_true rfl, Nat.le_of_ble_eq_true rfl⟩ rfl rfl hl.1 rfl (Nat.le_of_ble_eq_true rfl) dX7_hoppingChannel_7 ⟨Nat.le_of_ble_eq_true rfl, Nat.le_of_ble_eq_true rfl⟩ [1] [0] [0, 1] rfl rfl rfl rfl rfl rfl (fun H locs hw => ?_)
  refine lv_isub hx hb dX7_hoppingChannel_10 ?_
  refine lv_istore_n (lv' := [(3, .int (p2 - o1)), (0, .ref a0.1), (1, .int p1), (2, .int p2)]) hx hb dX7_hoppingChannel_11 rfl hl (by decide) rfl (fun ls hl => ?_)
  refine lv_aload_n hx hb dX7_hoppingChannel_12 rfl (lv_at hl 1 rfl) ?_
  refine k_get (ci := 7) (v := .ref a0.2.1) (C := RX7) (T := TX7) (N := 2) hx hb hts hown hz hw (by decide +kernel) 0 rfl rfl 0 (by decide) (hts (.fieldLink RX7 14 "OccupancyMonitor$Signals" "table" "LOccupancyMonitor$Table;") (by decide +kernel)) (fun _ h9 => h9) rfl dX7_hoppingChannel_13 ?_
  refine lv_iload_n hx hb dX7_hoppingChannel_16 rfl (lv_at hl 2 rfl) ?_
  refine lv_iconst (v := 3) hx hb dX7_hoppingChannel_17 (by decide) ?_
  obtain ⟨o2, hso2, hsp⟩ := bnd_of hsp
  refine k_callV (ci := 9) (C := RX9) (T := TX9) (N := 3) (nA := 2) (As := [.int p1, .int (3 : Int32)]) (cs := [w9 cA a0.2 v0.1]) (rs := [[(a0.1, .inr (7, [.ref a0.2.1, .int v0.2]))]]) (cs1 := [w9 cA a0.2 v0.1]) (bs1 := [[(a0.1, .inr (7, [.ref a0.2.1, .int v0.2]))], w9 cA a0.2 v0.1]) (rest := []) (st1 := [.int o2]) ⟨hx, hb, hml, hown, hts⟩ hz hw hA (mX9_get l D cA cR a0.2 v0.1 p1 (3 : Int32) o2 hso2) gX7_hoppingChannel_X9_get rfl rfl rfl (by decide +kernel) rfl ⟨Nat.le_of_ble_eq_true rfl, Nat.le_of_ble_eq_true rfl⟩ rfl rfl hl.1 rfl (Nat.le_of_ble_eq_true rfl) dX7_hoppingChannel_18 ⟨Nat.le_of_ble_eq_true rfl, Nat.le_of_ble_eq_true rfl⟩ [1] [0] [0, 1] rfl rfl rfl rfl rfl rfl (fun H locs hw => ?_)
  refine lv_istore (lv' := [(4, .int o2), (3, .int (p2 - o1)), (0, .ref a0.1), (1, .int p1), (2, .int p2)]) hx hb dX7_hoppingChannel_21 hl (by decide) rfl (fun ls hl => ?_)
  refine lv_iload_n hx hb dX7_hoppingChannel_23 rfl (lv_at hl 1 rfl) ?_
  refine lv_if_lt (tgt := 33) hx hb dX7_hoppingChannel_24 (by decide) (fun c3 => ?_) (fun c3 => ?_)
  · have hsp := ift c3 hsp
    refine lv_iconst (v := -1) hx hb dX7_hoppingChannel_33 (by decide) ?_
    have hsp := Option.some.inj hsp
    subst hsp
    have hw : ww A s.heap D [w7 cA a0 v0] H locs := hw
    subst hQ
    exact k_iret hx hb hr hlk hw dX7_hoppingChannel_34
  · have hsp := iff_ c3 hsp
    refine lv_iload hx hb dX7_hoppingChannel_27 (lv_at hl 0 rfl) ?_
    refine lv_iconst (v := 1) hx hb dX7_hoppingChannel_29 (by decide) ?_
    refine lv_icmp_ge (tgt := 35) hx hb dX7_hoppingChannel_30 (by decide) (fun c4 => ?_) (fun c4 => ?_)
    · have hsp := ift c4 hsp
      refine lv_aload_n hx hb dX7_hoppingChannel_35 rfl (lv_at hl 2 rfl) ?_
      refine k_get (ci := 7) (v := .ref a0.2.1) (C := RX7) (T := TX7) (N := 2) hx hb hts hown hz hw (by decide +kernel) 0 rfl rfl 0 (by decide) (hts (.fieldLink RX7 14 "OccupancyMonitor$Signals" "table" "LOccupancyMonitor$Table;") (by decide +kernel)) (fun _ h9 => h9) rfl dX7_hoppingChannel_36 ?_
      refine lv_iload_n hx hb dX7_hoppingChannel_39 rfl (lv_at hl 3 rfl) ?_
      refine lv_iconst (v := 2) hx hb dX7_hoppingChannel_40 (by decide) ?_
      obtain ⟨o5, hso5, hsp⟩ := bnd_of hsp
      refine k_callV (ci := 9) (C := RX9) (T := TX9) (N := 3) (nA := 2) (As := [.int p1, .int (2 : Int32)]) (cs := [w9 cA a0.2 v0.1]) (rs := [[(a0.1, .inr (7, [.ref a0.2.1, .int v0.2]))]]) (cs1 := [w9 cA a0.2 v0.1]) (bs1 := [[(a0.1, .inr (7, [.ref a0.2.1, .int v0.2]))], w9 cA a0.2 v0.1]) (rest := []) (st1 := [.int o5]) ⟨hx, hb, hml, hown, hts⟩ hz hw hA (mX9_get l D cA cR a0.2 v0.1 p1 (2 : Int32) o5 hso5) gX7_hoppingChannel_X9_get rfl rfl rfl (by decide +kernel) rfl ⟨Nat.le_of_ble_eq_true rfl, Nat.le_of_ble_eq_true rfl⟩ rfl rfl hl.1 rfl (Nat.le_of_ble_eq_true rfl) dX7_hoppingChannel_41 ⟨Nat.le_of_ble_eq_true rfl, Nat.le_of_ble_eq_true rfl⟩ [1] [0] [0, 1] rfl rfl rfl rfl rfl rfl (fun H locs hw => ?_)
      refine lv_iload_n hx hb dX7_hoppingChannel_44 rfl (lv_at hl 1 rfl) ?_
      refine lv_iload hx hb dX7_hoppingChannel_45 (lv_at hl 0 rfl) ?_
      obtain ⟨g6, hsp⟩ := grd_of hsp
      refine lv_idiv hx hb dX7_hoppingChannel_47 g6 ?_
      refine lv_imul hx hb dX7_hoppingChannel_48 ?_
      refine lv_istore (lv' := [(5, .int (o5 * ((p2 - o1) / o2))), (4, .int o2), (3, .int (p2 - o1)), (0, .ref a0.1), (1, .int p1), (2, .int p2)]) hx hb dX7_hoppingChannel_49 hl (by decide) rfl (fun ls hl => ?_)
      refine lv_aload_n hx hb dX7_hoppingChannel_51 rfl (lv_at hl 3 rfl) ?_
      refine k_get (ci := 7) (v := .ref a0.2.1) (C := RX7) (T := TX7) (N := 2) hx hb hts hown hz hw (by decide +kernel) 0 rfl rfl 0 (by decide) (hts (.fieldLink RX7 14 "OccupancyMonitor$Signals" "table" "LOccupancyMonitor$Table;") (by decide +kernel)) (fun _ h9 => h9) rfl dX7_hoppingChannel_52 ?_
      refine lv_iload_n hx hb dX7_hoppingChannel_55 rfl (lv_at hl 4 rfl) ?_
      refine lv_iconst (v := 1) hx hb dX7_hoppingChannel_56 (by decide) ?_
      obtain ⟨o7, hso7, hsp⟩ := bnd_of hsp
      refine k_callV (ci := 9) (C := RX9) (T := TX9) (N := 3) (nA := 2) (As := [.int p1, .int (1 : Int32)]) (cs := [w9 cA a0.2 v0.1]) (rs := [[(a0.1, .inr (7, [.ref a0.2.1, .int v0.2]))]]) (cs1 := [w9 cA a0.2 v0.1]) (bs1 := [[(a0.1, .inr (7, [.ref a0.2.1, .int v0.2]))], w9 cA a0.2 v0.1]) (rest := []) (st1 := [.int o7]) ⟨hx, hb, hml, hown, hts⟩ hz hw hA (mX9_get l D cA cR a0.2 v0.1 p1 (1 : Int32) o7 hso7) gX7_hoppingChannel_X9_get rfl rfl rfl (by decide +kernel) rfl ⟨Nat.le_of_ble_eq_true rfl, Nat.le_of_ble_eq_true rfl⟩ rfl rfl hl.1 rfl (Nat.le_of_ble_eq_true rfl) dX7_hoppingChannel_57 ⟨Nat.le_of_ble_eq_true rfl, Nat.le_of_ble_eq_true rfl⟩ [1] [0] [0, 1] rfl rfl rfl rfl rfl rfl (fun H locs hw => ?_)
      refine lv_iload hx hb dX7_hoppingChannel_60 (lv_at hl 0 rfl) ?_
      refine lv_iadd hx hb dX7_hoppingChannel_62 ?_
      refine lv_bipush (v := 32) hx hb dX7_hoppingChannel_63 (by decide) ?_
      refine lv_irem hx hb dX7_hoppingChannel_65 (by decide) ?_
      have hsp := Option.some.inj hsp
      subst hsp
      have hw : ww A s.heap D [w7 cA a0 v0] H locs := hw
      subst hQ
      exact k_iret hx hb hr hlk hw dX7_hoppingChannel_66
    · have hsp := iff_ c4 hsp
      refine lv_iconst (v := -1) hx hb dX7_hoppingChannel_33 (by decide) ?_
      have hsp := Option.some.inj hsp
      subst hsp
      have hw : ww A s.heap D [w7 cA a0 v0] H locs := hw
      subst hQ
      exact k_iret hx hb hr hlk hw dX7_hoppingChannel_34
noncomputable def qX7_raiseLevels_2 (v0 : V7) (p1 : Int32) (v1 : Nat × (Nat → Int32)) : Nat → Int32 → (Nat → Int32) → Option (Int32 × (Nat → Int32))
  | 0, _, _ => none
  | n2 + 1, z2_0, z2_1 => (if v0.2 ≤ z2_0 then (some (z2_0, z2_1)) else ((sX9_get v0.1 z2_0 (0 : Int32)).bind (fun o59 => (((if o59 = 0 then (some (1 : Int32)) else (some (0 : Int32))) : Option (Int32)).bind (fun j61 => (((if j61 = 0 then ((sX7_hoppingChannel v0 z2_0 p1).bind (fun o83 => (some o83))) else ((sX7_pulsedChannel v0 z2_0 p1).bind (fun o84 => (some o84)))) : Option (Int32)).bind (fun j65 => (((if j61 = 0 then (some (4 : Int32)) else (some (2 : Int32))) : Option (Int32)).bind (fun j67 => ((sX9_get v0.1 z2_0 j67).bind (fun o68 => ((sX10_within j65 (nI v1.1)).bind (fun o69 => (((if o69 = 0 then (some z2_1) else (grd (vp_in j65 v1.1) (if o68 ≤ (z2_1 j65.toNatClampNeg) then (some z2_1) else (grd (vp_in j65 v1.1) (lt_ (upd z2_1 j65.toNatClampNeg o68) (fun f80 => (some f80))))))) : Option ((Nat → Int32))).bind (fun j75 => (qX7_raiseLevels_2 v0 p1 v1 n2 (z2_0 + 1) j75))))))))))))))))
noncomputable def sX7_raiseLevels (N : Nat) (v0 : V7) (p1 : Int32) (v1 : Nat × (Nat → Int32)) : Option ((Nat → Int32)) := ((qX7_raiseLevels_2 v0 p1 v1 N (0 : Int32) v1.2).bind (fun o57 => (some o57.2)))
abbrev rX7_raiseLevels : Room := { frames := 2, cells := 0, slots := 0, locals := 47 }
set_option maxHeartbeats 4000000 in
set_option maxRecDepth 100000 in
theorem mX7_raiseLevels (l : Launch) (D : va_G) (cA cR : ClassId) (N : Nat) (a0 : A7) (v0 : V7) (p1 : Int32) (a1 : Nat) (v1 : Nat × (Nat → Int32)) (o : (Nat → Int32)) (hsp : sX7_raiseLevels N v0 p1 v1 = some o) : MI l yX7_raiseLevels wsX7_raiseLevels rX7_raiseLevels D cA cR [.ref a0.1, .int p1, .ref a1] [w7 cA a0 v0, wAr cA a1 v1] none [w7 cA a0 v0, wAr cA a1 (v1.1, o)] 0 0 := by
  have hsp : ((qX7_raiseLevels_2 v0 p1 v1 N (0 : Int32) v1.2).bind (fun o57 => (some o57.2))) = some o := hsp
  refine MI.ofW (cc := cX7_raiseLevels) (maxL := 7) (ret := none) (by decide) rfl (Nat.le_of_ble_eq_true rfl) ?_
  intro p e s m args below meth c A ls Q H locs hx hb hr hlk hml hown hnm hts hz hA hQ hw hl
  have hl : lv_has ls 7 [(0, .ref a0.1), (1, .int p1), (2, .ref a1)] := hl
  have hw : ww A s.heap D [[(a0.1, .inr (7, [.ref a0.2.1, .int v0.2]))], w9 cA a0.2 v0.1, [(a1, .inl (cA, v1.1, .inl v1.2))]] H locs := hw
  refine lv_iconst (v := 0) hx hb dX7_raiseLevels_0 (by decide) ?_
  refine lv_istore_n (lv' := [(3, .int (0 : Int32)), (0, .ref a0.1), (1, .int p1), (2, .ref a1)]) hx hb dX7_raiseLevels_1 rfl hl (by decide) rfl (fun ls hl => ?_)
  have L2 : ∀ (n2 : Nat) (z2_0 : Int32) (z2_1 : (Nat → Int32)) (o57 : Int32 × (Nat → Int32)), qX7_raiseLevels_2 v0 p1 v1 n2 z2_0 z2_1 = some o57 → ∀ (H : Heap) (locs : List Loc) (ls : Array Slot), ww A s.heap D [[(a0.1, .inr (7, [.ref a0.2.1, .int v0.2]))], w9 cA a0.2 v0.1, [(a1, .inl (cA, v1.1, .inl z2_1))]] H locs → lv_has ls 7 [(0, .ref a0.1), (1, .int p1), (2, .ref a1), (3, .int z2_0)] → (∀ (y102 : Int32 × (Nat → Int32)), o57 = y102 → ∀ (H : Heap) (locs : List Loc) (ls : Array Slot), ww A s.heap D [[(a0.1, .inr (7, [.ref a0.2.1, .int v0.2]))], w9 cA a0.2 v0.1, [(a1, .inl (cA, v1.1, .inl y102.2))]] H locs → lv_has ls 7 [(0, .ref a0.1), (1, .int p1), (2, .ref a1), (3, .int y102.1)] → W p l e rX7_raiseLevels s m args below meth c H locs 0 0 Q (F0 m 102 ls [])) → W p l e rX7_raiseLevels s m args below meth c H locs 0 0 Q (F0 m 2 ls []) := by
    intro n2
    induction n2 with
    | zero => intro z2_0 z2_1 o57 hsp; cases hsp
    | succ n2 ih2 =>
      intro z2_0 z2_1 o57 hsp H locs ls hw hl kx2_102
      have hsp : (if v0.2 ≤ z2_0 then (some (z2_0, z2_1)) else ((sX9_get v0.1 z2_0 (0 : Int32)).bind (fun o59 => (((if o59 = 0 then (some (1 : Int32)) else (some (0 : Int32))) : Option (Int32)).bind (fun j61 => (((if j61 = 0 then ((sX7_hoppingChannel v0 z2_0 p1).bind (fun o83 => (some o83))) else ((sX7_pulsedChannel v0 z2_0 p1).bind (fun o84 => (some o84)))) : Option (Int32)).bind (fun j65 => (((if j61 = 0 then (some (4 : Int32)) else (some (2 : Int32))) : Option (Int32)).bind (fun j67 => ((sX9_get v0.1 z2_0 j67).bind (fun o68 => ((sX10_within j65 (nI v1.1)).bind (fun o69 => (((if o69 = 0 then (some z2_1) else (grd (vp_in j65 v1.1) (if o68 ≤ (z2_1 j65.toNatClampNeg) then (some z2_1) else (grd (vp_in j65 v1.1) (lt_ (upd z2_1 j65.toNatClampNeg o68) (fun f80 => (some f80))))))) : Option ((Nat → Int32))).bind (fun j75 => (qX7_raiseLevels_2 v0 p1 v1 n2 (z2_0 + 1) j75)))))))))))))))) = some o57 := hsp
      refine lv_iload_n hx hb dX7_raiseLevels_2 rfl (lv_at hl 3 rfl) ?_
      refine lv_aload_n hx hb dX7_raiseLevels_3 rfl (lv_at hl 0 rfl) ?_
      refine k_get (ci := 7) (v := .int v0.2) (C := RX7) (T := TX7) (N := 2) hx hb hts hown hz hw (by decide +kernel) 0 rfl rfl 1 (by decide) (hts (.fieldLink RX7 20 "OccupancyMonitor$Signals" "count" "I") (by decide +kernel)) (fun _ h9 => h9) rfl dX7_raiseLevels_4 ?_
      refine lv_icmp_ge (tgt := 102) hx hb dX7_raiseLevels_7 (by decide) (fun c58 => ?_) (fun c58 => ?_)
      · have hsp := ift c58 hsp
        have hsp := Option.some.inj hsp
        subst hsp
        exact kx2_102 _ rfl _ _ _ hw (lv_sub hl [0, 1, 2, 3] rfl)
      · have hsp := iff_ c58 hsp
        refine lv_aload_n hx hb dX7_raiseLevels_10 rfl (lv_at hl 0 rfl) ?_
        refine k_get (ci := 7) (v := .ref a0.2.1) (C := RX7) (T := TX7) (N := 2) hx hb hts hown hz hw (by decide +kernel) 0 rfl rfl 0 (by decide) (hts (.fieldLink RX7 14 "OccupancyMonitor$Signals" "table" "LOccupancyMonitor$Table;") (by decide +kernel)) (fun _ h9 => h9) rfl dX7_raiseLevels_11 ?_
        refine lv_iload_n hx hb dX7_raiseLevels_14 rfl (lv_at hl 3 rfl) ?_
        refine lv_iconst (v := 0) hx hb dX7_raiseLevels_15 (by decide) ?_
        obtain ⟨o59, hso59, hsp⟩ := bnd_of hsp
        refine k_callV (ci := 9) (C := RX9) (T := TX9) (N := 3) (nA := 2) (As := [.int z2_0, .int (0 : Int32)]) (cs := [w9 cA a0.2 v0.1]) (rs := [[(a0.1, .inr (7, [.ref a0.2.1, .int v0.2]))], [(a1, .inl (cA, v1.1, .inl z2_1))]]) (cs1 := [w9 cA a0.2 v0.1]) (bs1 := [[(a0.1, .inr (7, [.ref a0.2.1, .int v0.2]))], w9 cA a0.2 v0.1, [(a1, .inl (cA, v1.1, .inl z2_1))]]) (rest := []) (st1 := [.int o59]) ⟨hx, hb, hml, hown, hts⟩ hz hw hA (mX9_get l D cA cR a0.2 v0.1 z2_0 (0 : Int32) o59 hso59) gX7_raiseLevels_X9_get rfl rfl rfl (by decide +kernel) rfl ⟨Nat.le_of_ble_eq_true rfl, Nat.le_of_ble_eq_true rfl⟩ rfl rfl hl.1 rfl (Nat.le_of_ble_eq_true rfl) dX7_raiseLevels_16 ⟨Nat.le_of_ble_eq_true rfl, Nat.le_of_ble_eq_true rfl⟩ [1] [0, 2] [0, 2, 1] rfl rfl rfl rfl rfl rfl (fun H locs hw => ?_)
        obtain ⟨j61, hsj61, hkj61⟩ := bnd_of hsp
        have Jj61 : ∀ (H : Heap) (locs : List Loc) (ls : Array Slot), ww A s.heap D [[(a0.1, .inr (7, [.ref a0.2.1, .int v0.2]))], w9 cA a0.2 v0.1, [(a1, .inl (cA, v1.1, .inl z2_1))]] H locs → lv_has ls 7 [(0, .ref a0.1), (1, .int p1), (2, .ref a1), (3, .int z2_0)] → W p l e rX7_raiseLevels s m args below meth c H locs 0 0 Q (F0 m 27 ls [.int j61]) := by
          intro H locs ls hw hl
          have hsp := hkj61
          refine lv_istore (lv' := [(4, .int j61), (0, .ref a0.1), (1, .int p1), (2, .ref a1), (3, .int z2_0)]) hx hb dX7_raiseLevels_27 hl (by decide) rfl (fun ls hl => ?_)
          refine lv_iload hx hb dX7_raiseLevels_29 (lv_at hl 0 rfl) ?_
          obtain ⟨j65, hsj65, hkj65⟩ := bnd_of hsp
          have Jj65 : ∀ (H : Heap) (locs : List Loc) (ls : Array Slot), ww A s.heap D [[(a0.1, .inr (7, [.ref a0.2.1, .int v0.2]))], w9 cA a0.2 v0.1, [(a1, .inl (cA, v1.1, .inl z2_1))]] H locs → lv_has ls 7 [(0, .ref a0.1), (1, .int p1), (2, .ref a1), (3, .int z2_0), (4, .int j61)] → W p l e rX7_raiseLevels s m args below meth c H locs 0 0 Q (F0 m 49 ls [.int j65]) := by
            intro H locs ls hw hl
            have hsp := hkj65
            refine lv_istore (lv' := [(5, .int j65), (0, .ref a0.1), (1, .int p1), (2, .ref a1), (3, .int z2_0), (4, .int j61)]) hx hb dX7_raiseLevels_49 hl (by decide) rfl (fun ls hl => ?_)
            refine lv_aload_n hx hb dX7_raiseLevels_51 rfl (lv_at hl 1 rfl) ?_
            refine k_get (ci := 7) (v := .ref a0.2.1) (C := RX7) (T := TX7) (N := 2) hx hb hts hown hz hw (by decide +kernel) 0 rfl rfl 0 (by decide) (hts (.fieldLink RX7 14 "OccupancyMonitor$Signals" "table" "LOccupancyMonitor$Table;") (by decide +kernel)) (fun _ h9 => h9) rfl dX7_raiseLevels_52 ?_
            refine lv_iload_n hx hb dX7_raiseLevels_55 rfl (lv_at hl 4 rfl) ?_
            refine lv_iload hx hb dX7_raiseLevels_56 (lv_at hl 5 rfl) ?_
            obtain ⟨j67, hsj67, hkj67⟩ := bnd_of hsp
            have Jj67 : ∀ (H : Heap) (locs : List Loc) (ls : Array Slot), ww A s.heap D [[(a0.1, .inr (7, [.ref a0.2.1, .int v0.2]))], w9 cA a0.2 v0.1, [(a1, .inl (cA, v1.1, .inl z2_1))]] H locs → lv_has ls 7 [(0, .ref a0.1), (1, .int p1), (2, .ref a1), (3, .int z2_0), (4, .int j61), (5, .int j65)] → W p l e rX7_raiseLevels s m args below meth c H locs 0 0 Q (F0 m 66 ls [.int j67, .int z2_0, .ref a0.2.1]) := by
              intro H locs ls hw hl
              have hsp := hkj67
              obtain ⟨o68, hso68, hsp⟩ := bnd_of hsp
              refine k_callV (ci := 9) (C := RX9) (T := TX9) (N := 3) (nA := 2) (As := [.int z2_0, .int j67]) (cs := [w9 cA a0.2 v0.1]) (rs := [[(a0.1, .inr (7, [.ref a0.2.1, .int v0.2]))], [(a1, .inl (cA, v1.1, .inl z2_1))]]) (cs1 := [w9 cA a0.2 v0.1]) (bs1 := [[(a0.1, .inr (7, [.ref a0.2.1, .int v0.2]))], w9 cA a0.2 v0.1, [(a1, .inl (cA, v1.1, .inl z2_1))]]) (rest := []) (st1 := [.int o68]) ⟨hx, hb, hml, hown, hts⟩ hz hw hA (mX9_get l D cA cR a0.2 v0.1 z2_0 j67 o68 hso68) gX7_raiseLevels_X9_get rfl rfl rfl (by decide +kernel) rfl ⟨Nat.le_of_ble_eq_true rfl, Nat.le_of_ble_eq_true rfl⟩ rfl rfl hl.1 rfl (Nat.le_of_ble_eq_true rfl) dX7_raiseLevels_66 ⟨Nat.le_of_ble_eq_true rfl, Nat.le_of_ble_eq_true rfl⟩ [1] [0, 2] [0, 2, 1] rfl rfl rfl rfl rfl rfl (fun H locs hw => ?_)
              refine lv_istore (lv' := [(6, .int o68), (0, .ref a0.1), (1, .int p1), (2, .ref a1), (3, .int z2_0), (4, .int j61), (5, .int j65)]) hx hb dX7_raiseLevels_69 hl (by decide) rfl (fun ls hl => ?_)
              refine lv_iload hx hb dX7_raiseLevels_71 (lv_at hl 6 rfl) ?_
              refine lv_aload_n hx hb dX7_raiseLevels_73 rfl (lv_at hl 3 rfl) ?_
              refine k_alen hx hb hz hw 2 rfl dX7_raiseLevels_74 ?_
              obtain ⟨o69, hso69, hsp⟩ := bnd_of hsp
              refine k_callSN (nA := 2) (As := [.int j65, .int (nI v1.1)]) (host := "OccupancyMonitor") (cs := []) (rs := [[(a0.1, .inr (7, [.ref a0.2.1, .int v0.2]))], w9 cA a0.2 v0.1, [(a1, .inl (cA, v1.1, .inl z2_1))]]) (cs1 := []) (bs1 := [[(a0.1, .inr (7, [.ref a0.2.1, .int v0.2]))], w9 cA a0.2 v0.1, [(a1, .inl (cA, v1.1, .inl z2_1))]]) (rest := []) (st1 := [.int o69]) ⟨hx, hb, hml, hown, hts⟩ hz hw hA (mX10_within l D cA cR j65 (nI v1.1) o69 hso69) gX7_raiseLevels_X10_within_n42 rfl rfl rfl (by decide +kernel) (by decide +kernel) (by decide +kernel) (by decide +kernel) rfl ⟨Nat.le_of_ble_eq_true rfl, Nat.le_of_ble_eq_true rfl⟩ hl.1 rfl (Nat.le_of_ble_eq_true rfl) dX7_raiseLevels_75 ⟨Nat.le_of_ble_eq_true rfl, Nat.le_of_ble_eq_true rfl⟩ [] [0, 1, 2] [0, 1, 2] rfl rfl rfl rfl rfl rfl (fun H locs hw => ?_)
              obtain ⟨j75, hsj75, hkj75⟩ := bnd_of hsp
              have Jj75 : ∀ (H : Heap) (locs : List Loc) (ls : Array Slot), ww A s.heap D [[(a0.1, .inr (7, [.ref a0.2.1, .int v0.2]))], w9 cA a0.2 v0.1, [(a1, .inl (cA, v1.1, .inl j75))]] H locs → lv_has ls 7 [(0, .ref a0.1), (1, .int p1), (2, .ref a1), (3, .int z2_0), (4, .int j61), (5, .int j65), (6, .int o68)] → W p l e rX7_raiseLevels s m args below meth c H locs 0 0 Q (F0 m 96 ls []) := by
                intro H locs ls hw hl
                have hsp := hkj75
                refine lv_iinc (v := (z2_0 + 1)) (lv' := [(3, .int (z2_0 + 1)), (0, .ref a0.1), (1, .int p1), (2, .ref a1), (4, .int j61), (5, .int j65), (6, .int o68)]) hx hb dX7_raiseLevels_96 hl (k := 3) rfl rfl (by decide) rfl (fun ls hl => ?_)
                refine lv_goto (tgt := 2) hx hb dX7_raiseLevels_99 (by decide) ?_
                exact ih2 (z2_0 + 1) j75 _ hsp _ _ _ hw (lv_sub hl [1, 2, 3, 0] rfl) kx2_102
              have hsp := hsj75
              refine lv_if_eq (tgt := 96) hx hb dX7_raiseLevels_78 (by decide) (fun c76 => ?_) (fun c76 => ?_)
              · have hsp := ift c76 hsp
                have hsp := Option.some.inj hsp
                subst hsp
                exact Jj75 _ _ _ hw (lv_sub hl [1, 2, 3, 4, 5, 6, 0] rfl)
              · have hsp := iff_ c76 hsp
                refine lv_iload hx hb dX7_raiseLevels_81 (lv_at hl 0 rfl) ?_
                refine lv_aload_n hx hb dX7_raiseLevels_83 rfl (lv_at hl 3 rfl) ?_
                refine lv_iload hx hb dX7_raiseLevels_84 (lv_at hl 6 rfl) ?_
                obtain ⟨g77, hsp⟩ := grd_of hsp
                refine k_iald hx hb hz hw 2 rfl g77 dX7_raiseLevels_86 ?_
                refine lv_icmp_le (tgt := 96) hx hb dX7_raiseLevels_87 (by decide) (fun c78 => ?_) (fun c78 => ?_)
                · have hsp := ift c78 hsp
                  have hsp := Option.some.inj hsp
                  subst hsp
                  exact Jj75 _ _ _ hw (lv_sub hl [1, 2, 3, 4, 5, 6, 0] rfl)
                · have hsp := iff_ c78 hsp
                  refine lv_aload_n hx hb dX7_raiseLevels_90 rfl (lv_at hl 3 rfl) ?_
                  refine lv_iload hx hb dX7_raiseLevels_91 (lv_at hl 6 rfl) ?_
                  refine lv_iload hx hb dX7_raiseLevels_93 (lv_at hl 0 rfl) ?_
                  obtain ⟨g79, hsp⟩ := grd_of hsp
                  obtain ⟨f80, ef80⟩ : ∃ u : Nat → Int32, u = (upd z2_1 j65.toNatClampNeg o68) := ⟨_, rfl⟩
                  have hsp := lt_of hsp ef80
                  refine k_iast (bs1 := [[(a0.1, .inr (7, [.ref a0.2.1, .int v0.2]))], w9 cA a0.2 v0.1, [(a1, .inl (cA, v1.1, .inl f80))]]) hx hb hz hw 2 rfl g79 dX7_raiseLevels_95 (by rw [ef80]; rfl) (fun H locs hw => ?_)
                  have hsp := Option.some.inj hsp
                  subst hsp
                  exact Jj75 _ _ _ hw (lv_sub hl [1, 2, 3, 4, 5, 6, 0] rfl)
            have hsp := hsj67
            refine lv_if_eq (tgt := 65) hx hb dX7_raiseLevels_58 (by decide) (fun c81 => ?_) (fun c81 => ?_)
            · have hsp := ift c81 hsp
              refine lv_iconst (v := 4) hx hb dX7_raiseLevels_65 (by decide) ?_
              have hsp := Option.some.inj hsp
              subst hsp
              exact Jj67 _ _ _ hw (lv_sub hl [1, 2, 3, 4, 5, 0] rfl)
            · have hsp := iff_ c81 hsp
              refine lv_iconst (v := 2) hx hb dX7_raiseLevels_61 (by decide) ?_
              refine lv_goto (tgt := 66) hx hb dX7_raiseLevels_62 (by decide) ?_
              have hsp := Option.some.inj hsp
              subst hsp
              exact Jj67 _ _ _ hw (lv_sub hl [1, 2, 3, 4, 5, 0] rfl)
          have hsp := hsj65
          refine lv_if_eq (tgt := 43) hx hb dX7_raiseLevels_31 (by decide) (fun c82 => ?_) (fun c82 => ?_)
          · have hsp := ift c82 hsp
            refine lv_aload_n hx hb dX7_raiseLevels_43 rfl (lv_at hl 1 rfl) ?_
            refine lv_iload_n hx hb dX7_raiseLevels_44 rfl (lv_at hl 4 rfl) ?_
            refine lv_iload_n hx hb dX7_raiseLevels_45 rfl (lv_at hl 2 rfl) ?_
            have hw : ww A s.heap D [w7 cA a0 v0, [(a1, .inl (cA, v1.1, .inl z2_1))]] H locs := hw
            obtain ⟨o83, hso83, hsp⟩ := bnd_of hsp
            refine k_callV (ci := 7) (C := RX7) (T := TX7) (N := 2) (nA := 2) (As := [.int z2_0, .int p1]) (cs := [w7 cA a0 v0]) (rs := [[(a1, .inl (cA, v1.1, .inl z2_1))]]) (cs1 := [w7 cA a0 v0]) (bs1 := [w7 cA a0 v0, [(a1, .inl (cA, v1.1, .inl z2_1))]]) (rest := []) (st1 := [.int o83]) ⟨hx, hb, hml, hown, hts⟩ hz hw hA (mX7_hoppingChannel l D cA cR a0 v0 z2_0 p1 o83 hso83) gX7_raiseLevels_X7_hoppingChannel rfl rfl rfl (by decide +kernel) rfl ⟨Nat.le_of_ble_eq_true rfl, Nat.le_of_ble_eq_true rfl⟩ rfl rfl hl.1 rfl (Nat.le_of_ble_eq_true rfl) dX7_raiseLevels_46 ⟨Nat.le_of_ble_eq_true rfl, Nat.le_of_ble_eq_true rfl⟩ [0] [1] [1, 0] rfl rfl rfl rfl rfl rfl (fun H locs hw => ?_)
            have hw : ww A s.heap D [[(a0.1, .inr (7, [.ref a0.2.1, .int v0.2]))], w9 cA a0.2 v0.1, [(a1, .inl (cA, v1.1, .inl z2_1))]] H locs := hw
            have hsp := Option.some.inj hsp
            subst hsp
            exact Jj65 _ _ _ hw (lv_sub hl [1, 2, 3, 4, 0] rfl)
          · have hsp := iff_ c82 hsp
            refine lv_aload_n hx hb dX7_raiseLevels_34 rfl (lv_at hl 1 rfl) ?_
            refine lv_iload_n hx hb dX7_raiseLevels_35 rfl (lv_at hl 4 rfl) ?_
            refine lv_iload_n hx hb dX7_raiseLevels_36 rfl (lv_at hl 2 rfl) ?_
            have hw : ww A s.heap D [w7 cA a0 v0, [(a1, .inl (cA, v1.1, .inl z2_1))]] H locs := hw
            obtain ⟨o84, hso84, hsp⟩ := bnd_of hsp
            refine k_callV (ci := 7) (C := RX7) (T := TX7) (N := 2) (nA := 2) (As := [.int z2_0, .int p1]) (cs := [w7 cA a0 v0]) (rs := [[(a1, .inl (cA, v1.1, .inl z2_1))]]) (cs1 := [w7 cA a0 v0]) (bs1 := [w7 cA a0 v0, [(a1, .inl (cA, v1.1, .inl z2_1))]]) (rest := []) (st1 := [.int o84]) ⟨hx, hb, hml, hown, hts⟩ hz hw hA (mX7_pulsedChannel l D cA cR a0 v0 z2_0 p1 o84 hso84) gX7_raiseLevels_X7_pulsedChannel rfl rfl rfl (by decide +kernel) rfl ⟨Nat.le_of_ble_eq_true rfl, Nat.le_of_ble_eq_true rfl⟩ rfl rfl hl.1 rfl (Nat.le_of_ble_eq_true rfl) dX7_raiseLevels_37 ⟨Nat.le_of_ble_eq_true rfl, Nat.le_of_ble_eq_true rfl⟩ [0] [1] [1, 0] rfl rfl rfl rfl rfl rfl (fun H locs hw => ?_)
            have hw : ww A s.heap D [[(a0.1, .inr (7, [.ref a0.2.1, .int v0.2]))], w9 cA a0.2 v0.1, [(a1, .inl (cA, v1.1, .inl z2_1))]] H locs := hw
            refine lv_goto (tgt := 49) hx hb dX7_raiseLevels_40 (by decide) ?_
            have hsp := Option.some.inj hsp
            subst hsp
            exact Jj65 _ _ _ hw (lv_sub hl [1, 2, 3, 4, 0] rfl)
        have hsp := hsj61
        refine lv_if_ne (tgt := 26) hx hb dX7_raiseLevels_19 (by decide) (fun c85 => ?_) (fun c85 => ?_)
        · have hsp := iff_ c85 hsp
          refine lv_iconst (v := 0) hx hb dX7_raiseLevels_26 (by decide) ?_
          have hsp := Option.some.inj hsp
          subst hsp
          exact Jj61 _ _ _ hw (lv_sub hl [0, 1, 2, 3] rfl)
        · have hsp := ift c85 hsp
          refine lv_iconst (v := 1) hx hb dX7_raiseLevels_22 (by decide) ?_
          refine lv_goto (tgt := 27) hx hb dX7_raiseLevels_23 (by decide) ?_
          have hsp := Option.some.inj hsp
          subst hsp
          exact Jj61 _ _ _ hw (lv_sub hl [0, 1, 2, 3] rfl)
  obtain ⟨o57, hso57, hsp⟩ := bnd_of hsp
  refine L2 N (0 : Int32) v1.2 _ hso57 _ _ _ hw (lv_sub hl [1, 2, 3, 0] rfl) (fun y102 hy102 H locs ls hw hl => ?_)
  cases hy102
  have hsp := Option.some.inj hsp
  subst hsp
  have hw : ww A s.heap D [w7 cA a0 v0, wAr cA a1 (v1.1, o57.2)] H locs := hw
  subst hQ
  exact k_vret hx hb hr hlk hw dX7_raiseLevels_102
noncomputable def sX7_copyFrom (v0 : V7) (v1 : V7) : Option (V7) := ((sX9_copyFrom v0.1 v1.1).bind (fun o1 => (some (o1, v1.2))))
abbrev rX7_copyFrom : Room := { frames := 2, cells := 0, slots := 0, locals := 47 }
set_option maxHeartbeats 4000000 in
set_option maxRecDepth 100000 in
theorem mX7_copyFrom (l : Launch) (D : va_G) (cA cR : ClassId) (a0 : A7) (v0 : V7) (a1 : A7) (v1 : V7) (o : V7) (hsp : sX7_copyFrom v0 v1 = some o) : MI l yX7_copyFrom wsX7_copyFrom rX7_copyFrom D cA cR [.ref a0.1, .ref a1.1] [w7 cA a0 v0, w7 cA a1 v1] none [w7 cA a0 o, w7 cA a1 v1] 0 0 := by
  have hsp : ((sX9_copyFrom v0.1 v1.1).bind (fun o1 => (some (o1, v1.2)))) = some o := hsp
  refine MI.ofW (cc := cX7_copyFrom) (maxL := 2) (ret := none) (by decide) rfl (Nat.le_of_ble_eq_true rfl) ?_
  intro p e s m args below meth c A ls Q H locs hx hb hr hlk hml hown hnm hts hz hA hQ hw hl
  have hl : lv_has ls 2 [(0, .ref a0.1), (1, .ref a1.1)] := hl
  have hw : ww A s.heap D [[(a0.1, .inr (7, [.ref a0.2.1, .int v0.2]))], w9 cA a0.2 v0.1, [(a1.1, .inr (7, [.ref a1.2.1, .int v1.2]))], w9 cA a1.2 v1.1] H locs := hw
  refine lv_aload_n hx hb dX7_copyFrom_0 rfl (lv_at hl 0 rfl) ?_
  refine k_get (ci := 7) (v := .ref a0.2.1) (C := RX7) (T := TX7) (N := 2) hx hb hts hown hz hw (by decide +kernel) 0 rfl rfl 0 (by decide) (hts (.fieldLink RX7 14 "OccupancyMonitor$Signals" "table" "LOccupancyMonitor$Table;") (by decide +kernel)) (fun _ h9 => h9) rfl dX7_copyFrom_1 ?_
  refine lv_aload_n hx hb dX7_copyFrom_4 rfl (lv_at hl 1 rfl) ?_
  refine k_get (ci := 7) (v := .ref a1.2.1) (C := RX7) (T := TX7) (N := 2) hx hb hts hown hz hw (by decide +kernel) 2 rfl rfl 0 (by decide) (hts (.fieldLink RX7 14 "OccupancyMonitor$Signals" "table" "LOccupancyMonitor$Table;") (by decide +kernel)) (fun _ h9 => h9) rfl dX7_copyFrom_5 ?_
  obtain ⟨o1, hso1, hsp⟩ := bnd_of hsp
  refine k_callV (ci := 9) (C := RX9) (T := TX9) (N := 3) (nA := 1) (As := [.ref a1.2.1]) (cs := [w9 cA a0.2 v0.1, w9 cA a1.2 v1.1]) (rs := [[(a0.1, .inr (7, [.ref a0.2.1, .int v0.2]))], [(a1.1, .inr (7, [.ref a1.2.1, .int v1.2]))]]) (cs1 := [w9 cA a0.2 o1, w9 cA a1.2 v1.1]) (bs1 := [[(a0.1, .inr (7, [.ref a0.2.1, .int v0.2]))], w9 cA a0.2 o1, [(a1.1, .inr (7, [.ref a1.2.1, .int v1.2]))], w9 cA a1.2 v1.1]) (rest := []) (st1 := []) ⟨hx, hb, hml, hown, hts⟩ hz hw hA (mX9_copyFrom l D cA cR a0.2 v0.1 a1.2 v1.1 o1 hso1) gX7_copyFrom_X9_copyFrom rfl rfl rfl (by decide +kernel) rfl ⟨Nat.le_of_ble_eq_true rfl, Nat.le_of_ble_eq_true rfl⟩ rfl rfl hl.1 rfl (Nat.le_of_ble_eq_true rfl) dX7_copyFrom_8 ⟨Nat.le_of_ble_eq_true rfl, Nat.le_of_ble_eq_true rfl⟩ [1, 3] [0, 2] [0, 2, 1, 3] rfl rfl rfl rfl rfl rfl (fun H locs hw => ?_)
  refine lv_aload_n hx hb dX7_copyFrom_11 rfl (lv_at hl 0 rfl) ?_
  refine lv_aload_n hx hb dX7_copyFrom_12 rfl (lv_at hl 1 rfl) ?_
  refine k_get (ci := 7) (v := .int v1.2) (C := RX7) (T := TX7) (N := 2) hx hb hts hown hz hw (by decide +kernel) 2 rfl rfl 1 (by decide) (hts (.fieldLink RX7 20 "OccupancyMonitor$Signals" "count" "I") (by decide +kernel)) (fun _ h9 => h9) rfl dX7_copyFrom_13 ?_
  refine k_put (ci := 7) (v := .int v1.2) (ty := .int) (C := RX7) (T := TX7) (N := 2) (bs1 := [[(a0.1, .inr (7, [.ref a0.2.1, .int v1.2]))], w9 cA a0.2 o1, [(a1.1, .inr (7, [.ref a1.2.1, .int v1.2]))], w9 cA a1.2 v1.1]) hx hb hts hown hz hw (by decide +kernel) tyX7 tyX7_ok nmX7 0 rfl rfl 1 (by decide) (hts (.fieldLink RX7 20 "OccupancyMonitor$Signals" "count" "I") (by decide +kernel)) (fun _ h9 => h9) rfl (by decide +kernel) rfl rfl (Nat.le_of_ble_eq_true rfl) dX7_copyFrom_16 rfl (fun H locs hw => ?_)
  have hsp := Option.some.inj hsp
  subst hsp
  have hw : ww A s.heap D [w7 cA a0 (o1, v1.2), w7 cA a1 v1] H locs := hw
  subst hQ
  exact k_vret hx hb hr hlk hw dX7_copyFrom_19
