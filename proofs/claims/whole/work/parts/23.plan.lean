noncomputable def sX5_clear (v0 : V5) : Option (V5) := (some (v0.1, (0 : Int32), (0 : Int32), (0 : Int32)))
abbrev rX5_clear : Room := { frames := 0, cells := 0, slots := 0, locals := 0 }
set_option maxHeartbeats 4000000 in
set_option maxRecDepth 100000 in
theorem mX5_clear (l : Launch) (D : va_G) (cA cR : ClassId) (a0 : A5) (v0 : V5) (o : V5) (hsp : sX5_clear v0 = some o) : MI l yX5_clear wsX5_clear rX5_clear D cA cR [.ref a0.1] [w5 cA a0 v0] none [w5 cA a0 o] 0 0 := by
  have hsp : (some (v0.1, (0 : Int32), (0 : Int32), (0 : Int32))) = some o := hsp
  refine MI.ofW (cc := cX5_clear) (maxL := 1) (ret := none) (by decide) rfl (Nat.le_of_ble_eq_true rfl) ?_
  intro p e s m args below meth c A ls Q H locs hx hb hr hlk hml hown hnm hts hz hA hQ hw hl
  have hl : lv_has ls 1 [(0, .ref a0.1)] := hl
  have hw : ww A s.heap D [[(a0.1, .inr (5, [.ref a0.2.1, .int v0.2.1, .int v0.2.2.1, .int v0.2.2.2]))], w9 cA a0.2 v0.1] H locs := hw
  refine lv_aload_n hx hb dX5_clear_0 rfl (lv_at hl 0 rfl) ?_
  refine lv_iconst (v := 0) hx hb dX5_clear_1 (by decide) ?_
  refine k_put (ci := 5) (v := .int (0 : Int32)) (ty := .int) (C := RX5) (T := TX5) (N := 4) (bs1 := [[(a0.1, .inr (5, [.ref a0.2.1, .int (0 : Int32), .int v0.2.2.1, .int v0.2.2.2]))], w9 cA a0.2 v0.1]) hx hb hts hown hz hw (by decide +kernel) tyX5 tyX5_ok nmX5 0 rfl rfl 1 (by decide) (hts (.fieldLink RX5 20 "OccupancyMonitor$Plan" "count" "I") (by decide +kernel)) (fun _ h9 => h9) rfl (by decide +kernel) rfl rfl (Nat.le_of_ble_eq_true rfl) dX5_clear_2 rfl (fun H locs hw => ?_)
  refine lv_aload_n hx hb dX5_clear_5 rfl (lv_at hl 0 rfl) ?_
  refine lv_iconst (v := 0) hx hb dX5_clear_6 (by decide) ?_
  refine k_put (ci := 5) (v := .int (0 : Int32)) (ty := .int) (C := RX5) (T := TX5) (N := 4) (bs1 := [[(a0.1, .inr (5, [.ref a0.2.1, .int (0 : Int32), .int (0 : Int32), .int v0.2.2.2]))], w9 cA a0.2 v0.1]) hx hb hts hown hz hw (by decide +kernel) tyX5 tyX5_ok nmX5 0 rfl rfl 2 (by decide) (hts (.fieldLink RX5 24 "OccupancyMonitor$Plan" "present" "I") (by decide +kernel)) (fun _ h9 => h9) rfl (by decide +kernel) rfl rfl (Nat.le_of_ble_eq_true rfl) dX5_clear_7 rfl (fun H locs hw => ?_)
  refine lv_aload_n hx hb dX5_clear_10 rfl (lv_at hl 0 rfl) ?_
  refine lv_iconst (v := 0) hx hb dX5_clear_11 (by decide) ?_
  refine k_put (ci := 5) (v := .int (0 : Int32)) (ty := .int) (C := RX5) (T := TX5) (N := 4) (bs1 := [[(a0.1, .inr (5, [.ref a0.2.1, .int (0 : Int32), .int (0 : Int32), .int (0 : Int32)]))], w9 cA a0.2 v0.1]) hx hb hts hown hz hw (by decide +kernel) tyX5 tyX5_ok nmX5 0 rfl rfl 3 (by decide) (hts (.fieldLink RX5 27 "OccupancyMonitor$Plan" "elapsed" "I") (by decide +kernel)) (fun _ h9 => h9) rfl (by decide +kernel) rfl rfl (Nat.le_of_ble_eq_true rfl) dX5_clear_12 rfl (fun H locs hw => ?_)
  have hsp := Option.some.inj hsp
  subst hsp
  have hw : ww A s.heap D [w5 cA a0 (v0.1, (0 : Int32), (0 : Int32), (0 : Int32))] H locs := hw
  subst hQ
  exact k_vret hx hb hr hlk hw dX5_clear_15
noncomputable def sX5_add (v0 : V5) (p1 : Int32) (p2 : Int32) (p3 : Int32) : Option (V5) := ((sX9_set v0.1 v0.2.1 (0 : Int32) p1).bind (fun o1 => ((sX9_set o1 v0.2.1 (1 : Int32) p2).bind (fun o2 => ((sX9_set o2 v0.2.1 (2 : Int32) p3).bind (fun o3 => (some (o3, (v0.2.1 + (1 : Int32)), v0.2.2.1, v0.2.2.2))))))))
abbrev rX5_add : Room := { frames := 1, cells := 0, slots := 0, locals := 23 }
set_option maxHeartbeats 4000000 in
set_option maxRecDepth 100000 in
theorem mX5_add (l : Launch) (D : va_G) (cA cR : ClassId) (a0 : A5) (v0 : V5) (p1 : Int32) (p2 : Int32) (p3 : Int32) (o : V5) (hsp : sX5_add v0 p1 p2 p3 = some o) : MI l yX5_add wsX5_add rX5_add D cA cR [.ref a0.1, .int p1, .int p2, .int p3] [w5 cA a0 v0] none [w5 cA a0 o] 0 0 := by
  have hsp : ((sX9_set v0.1 v0.2.1 (0 : Int32) p1).bind (fun o1 => ((sX9_set o1 v0.2.1 (1 : Int32) p2).bind (fun o2 => ((sX9_set o2 v0.2.1 (2 : Int32) p3).bind (fun o3 => (some (o3, (v0.2.1 + (1 : Int32)), v0.2.2.1, v0.2.2.2)))))))) = some o := hsp
  refine MI.ofW (cc := cX5_add) (maxL := 4) (ret := none) (by decide) rfl (Nat.le_of_ble_eq_true rfl) ?_
  intro p e s m args below meth c A ls Q H locs hx hb hr hlk hml hown hnm hts hz hA hQ hw hl
  have hl : lv_has ls 4 [(0, .ref a0.1), (1, .int p1), (2, .int p2), (3, .int p3)] := hl
  have hw : ww A s.heap D [[(a0.1, .inr (5, [.ref a0.2.1, .int v0.2.1, .int v0.2.2.1, .int v0.2.2.2]))], w9 cA a0.2 v0.1] H locs := hw
  refine lv_aload_n hx hb dX5_add_0 rfl (lv_at hl 0 rfl) ?_
  refine k_get (ci := 5) (v := .ref a0.2.1) (C := RX5) (T := TX5) (N := 4) hx hb hts hown hz hw (by decide +kernel) 0 rfl rfl 0 (by decide) (hts (.fieldLink RX5 14 "OccupancyMonitor$Plan" "table" "LOccupancyMonitor$Table;") (by decide +kernel)) (fun _ h9 => h9) rfl dX5_add_1 ?_
  refine lv_aload_n hx hb dX5_add_4 rfl (lv_at hl 0 rfl) ?_
  refine k_get (ci := 5) (v := .int v0.2.1) (C := RX5) (T := TX5) (N := 4) hx hb hts hown hz hw (by decide +kernel) 0 rfl rfl 1 (by decide) (hts (.fieldLink RX5 20 "OccupancyMonitor$Plan" "count" "I") (by decide +kernel)) (fun _ h9 => h9) rfl dX5_add_5 ?_
  refine lv_iconst (v := 0) hx hb dX5_add_8 (by decide) ?_
  refine lv_iload_n hx hb dX5_add_9 rfl (lv_at hl 1 rfl) ?_
  obtain ⟨o1, hso1, hsp⟩ := bnd_of hsp
  refine k_callV (ci := 9) (C := RX9) (T := TX9) (N := 3) (nA := 3) (As := [.int v0.2.1, .int (0 : Int32), .int p1]) (cs := [w9 cA a0.2 v0.1]) (rs := [[(a0.1, .inr (5, [.ref a0.2.1, .int v0.2.1, .int v0.2.2.1, .int v0.2.2.2]))]]) (cs1 := [w9 cA a0.2 o1]) (bs1 := [[(a0.1, .inr (5, [.ref a0.2.1, .int v0.2.1, .int v0.2.2.1, .int v0.2.2.2]))], w9 cA a0.2 o1]) (rest := []) (st1 := []) ⟨hx, hb, hml, hown, hts⟩ hz hw hA (mX9_set l D cA cR a0.2 v0.1 v0.2.1 (0 : Int32) p1 o1 hso1) gX5_add_X9_set rfl rfl rfl (by decide +kernel) rfl ⟨Nat.le_of_ble_eq_true rfl, Nat.le_of_ble_eq_true rfl⟩ rfl rfl hl.1 rfl (Nat.le_of_ble_eq_true rfl) dX5_add_10 ⟨Nat.le_of_ble_eq_true rfl, Nat.le_of_ble_eq_true rfl⟩ [1] [0] [0, 1] rfl rfl rfl rfl rfl rfl (fun H locs hw => ?_)
  refine lv_aload_n hx hb dX5_add_13 rfl (lv_at hl 0 rfl) ?_
  refine k_get (ci := 5) (v := .ref a0.2.1) (C := RX5) (T := TX5) (N := 4) hx hb hts hown hz hw (by decide +kernel) 0 rfl rfl 0 (by decide) (hts (.fieldLink RX5 14 "OccupancyMonitor$Plan" "table" "LOccupancyMonitor$Table;") (by decide +kernel)) (fun _ h9 => h9) rfl dX5_add_14 ?_
  refine lv_aload_n hx hb dX5_add_17 rfl (lv_at hl 0 rfl) ?_
  refine k_get (ci := 5) (v := .int v0.2.1) (C := RX5) (T := TX5) (N := 4) hx hb hts hown hz hw (by decide +kernel) 0 rfl rfl 1 (by decide) (hts (.fieldLink RX5 20 "OccupancyMonitor$Plan" "count" "I") (by decide +kernel)) (fun _ h9 => h9) rfl dX5_add_18 ?_
  refine lv_iconst (v := 1) hx hb dX5_add_21 (by decide) ?_
  refine lv_iload_n hx hb dX5_add_22 rfl (lv_at hl 2 rfl) ?_
  obtain ⟨o2, hso2, hsp⟩ := bnd_of hsp
  refine k_callV (ci := 9) (C := RX9) (T := TX9) (N := 3) (nA := 3) (As := [.int v0.2.1, .int (1 : Int32), .int p2]) (cs := [w9 cA a0.2 o1]) (rs := [[(a0.1, .inr (5, [.ref a0.2.1, .int v0.2.1, .int v0.2.2.1, .int v0.2.2.2]))]]) (cs1 := [w9 cA a0.2 o2]) (bs1 := [[(a0.1, .inr (5, [.ref a0.2.1, .int v0.2.1, .int v0.2.2.1, .int v0.2.2.2]))], w9 cA a0.2 o2]) (rest := []) (st1 := []) ⟨hx, hb, hml, hown, hts⟩ hz hw hA (mX9_set l D cA cR a0.2 o1 v0.2.1 (1 : Int32) p2 o2 hso2) gX5_add_X9_set rfl rfl rfl (by decide +kernel) rfl ⟨Nat.le_of_ble_eq_true rfl, Nat.le_of_ble_eq_true rfl⟩ rfl rfl hl.1 rfl (Nat.le_of_ble_eq_true rfl) dX5_add_23 ⟨Nat.le_of_ble_eq_true rfl, Nat.le_of_ble_eq_true rfl⟩ [1] [0] [0, 1] rfl rfl rfl rfl rfl rfl (fun H locs hw => ?_)
  refine lv_aload_n hx hb dX5_add_26 rfl (lv_at hl 0 rfl) ?_
  refine k_get (ci := 5) (v := .ref a0.2.1) (C := RX5) (T := TX5) (N := 4) hx hb hts hown hz hw (by decide +kernel) 0 rfl rfl 0 (by decide) (hts (.fieldLink RX5 14 "OccupancyMonitor$Plan" "table" "LOccupancyMonitor$Table;") (by decide +kernel)) (fun _ h9 => h9) rfl dX5_add_27 ?_
  refine lv_aload_n hx hb dX5_add_30 rfl (lv_at hl 0 rfl) ?_
  refine k_get (ci := 5) (v := .int v0.2.1) (C := RX5) (T := TX5) (N := 4) hx hb hts hown hz hw (by decide +kernel) 0 rfl rfl 1 (by decide) (hts (.fieldLink RX5 20 "OccupancyMonitor$Plan" "count" "I") (by decide +kernel)) (fun _ h9 => h9) rfl dX5_add_31 ?_
  refine lv_iconst (v := 2) hx hb dX5_add_34 (by decide) ?_
  refine lv_iload_n hx hb dX5_add_35 rfl (lv_at hl 3 rfl) ?_
  obtain ⟨o3, hso3, hsp⟩ := bnd_of hsp
  refine k_callV (ci := 9) (C := RX9) (T := TX9) (N := 3) (nA := 3) (As := [.int v0.2.1, .int (2 : Int32), .int p3]) (cs := [w9 cA a0.2 o2]) (rs := [[(a0.1, .inr (5, [.ref a0.2.1, .int v0.2.1, .int v0.2.2.1, .int v0.2.2.2]))]]) (cs1 := [w9 cA a0.2 o3]) (bs1 := [[(a0.1, .inr (5, [.ref a0.2.1, .int v0.2.1, .int v0.2.2.1, .int v0.2.2.2]))], w9 cA a0.2 o3]) (rest := []) (st1 := []) ⟨hx, hb, hml, hown, hts⟩ hz hw hA (mX9_set l D cA cR a0.2 o2 v0.2.1 (2 : Int32) p3 o3 hso3) gX5_add_X9_set rfl rfl rfl (by decide +kernel) rfl ⟨Nat.le_of_ble_eq_true rfl, Nat.le_of_ble_eq_true rfl⟩ rfl rfl hl.1 rfl (Nat.le_of_ble_eq_true rfl) dX5_add_36 ⟨Nat.le_of_ble_eq_true rfl, Nat.le_of_ble_eq_true rfl⟩ [1] [0] [0, 1] rfl rfl rfl rfl rfl rfl (fun H locs hw => ?_)
  refine lv_aload_n hx hb dX5_add_39 rfl (lv_at hl 0 rfl) ?_
  refine lv_dup hx hb dX5_add_40 rfl ?_
  refine k_get (ci := 5) (v := .int v0.2.1) (C := RX5) (T := TX5) (N := 4) hx hb hts hown hz hw (by decide +kernel) 0 rfl rfl 1 (by decide) (hts (.fieldLink RX5 20 "OccupancyMonitor$Plan" "count" "I") (by decide +kernel)) (fun _ h9 => h9) rfl dX5_add_41 ?_
  refine lv_iconst (v := 1) hx hb dX5_add_44 (by decide) ?_
  refine lv_iadd hx hb dX5_add_45 ?_
  refine k_put (ci := 5) (v := .int (v0.2.1 + (1 : Int32))) (ty := .int) (C := RX5) (T := TX5) (N := 4) (bs1 := [[(a0.1, .inr (5, [.ref a0.2.1, .int (v0.2.1 + (1 : Int32)), .int v0.2.2.1, .int v0.2.2.2]))], w9 cA a0.2 o3]) hx hb hts hown hz hw (by decide +kernel) tyX5 tyX5_ok nmX5 0 rfl rfl 1 (by decide) (hts (.fieldLink RX5 20 "OccupancyMonitor$Plan" "count" "I") (by decide +kernel)) (fun _ h9 => h9) rfl (by decide +kernel) rfl rfl (Nat.le_of_ble_eq_true rfl) dX5_add_46 rfl (fun H locs hw => ?_)
  have hsp := Option.some.inj hsp
  subst hsp
  have hw : ww A s.heap D [w5 cA a0 (o3, (v0.2.1 + (1 : Int32)), v0.2.2.1, v0.2.2.2)] H locs := hw
  subst hQ
  exact k_vret hx hb hr hlk hw dX5_add_49
noncomputable def sX5_nextStep (v0 : V5) : Option (Int32) := (if v0.2.1 = 0 then (some (-1 : Int32)) else (some v0.2.2.1))
abbrev rX5_nextStep : Room := { frames := 0, cells := 0, slots := 0, locals := 0 }
set_option maxHeartbeats 4000000 in
set_option maxRecDepth 100000 in
theorem mX5_nextStep (l : Launch) (D : va_G) (cA cR : ClassId) (a0 : A5) (v0 : V5) (o : Int32) (hsp : sX5_nextStep v0 = some o) : MI l yX5_nextStep wsX5_nextStep rX5_nextStep D cA cR [.ref a0.1] [w5 cA a0 v0] (some (.int o)) [w5 cA a0 v0] 0 0 := by
  have hsp : (if v0.2.1 = 0 then (some (-1 : Int32)) else (some v0.2.2.1)) = some o := hsp
  refine MI.ofW (cc := cX5_nextStep) (maxL := 1) (ret := (some .int)) (by decide) rfl (Nat.le_of_ble_eq_true rfl) ?_
  intro p e s m args below meth c A ls Q H locs hx hb hr hlk hml hown hnm hts hz hA hQ hw hl
  have hl : lv_has ls 1 [(0, .ref a0.1)] := hl
  have hw : ww A s.heap D [[(a0.1, .inr (5, [.ref a0.2.1, .int v0.2.1, .int v0.2.2.1, .int v0.2.2.2]))], w9 cA a0.2 v0.1] H locs := hw
  refine lv_aload_n hx hb dX5_nextStep_0 rfl (lv_at hl 0 rfl) ?_
  refine k_get (ci := 5) (v := .int v0.2.1) (C := RX5) (T := TX5) (N := 4) hx hb hts hown hz hw (by decide +kernel) 0 rfl rfl 1 (by decide) (hts (.fieldLink RX5 20 "OccupancyMonitor$Plan" "count" "I") (by decide +kernel)) (fun _ h9 => h9) rfl dX5_nextStep_1 ?_
  refine lv_if_ne (tgt := 11) hx hb dX5_nextStep_4 (by decide) (fun c1 => ?_) (fun c1 => ?_)
  · have hsp := iff_ c1 hsp
    refine lv_aload_n hx hb dX5_nextStep_11 rfl (lv_at hl 0 rfl) ?_
    refine k_get (ci := 5) (v := .int v0.2.2.1) (C := RX5) (T := TX5) (N := 4) hx hb hts hown hz hw (by decide +kernel) 0 rfl rfl 2 (by decide) (hts (.fieldLink RX5 24 "OccupancyMonitor$Plan" "present" "I") (by decide +kernel)) (fun _ h9 => h9) rfl dX5_nextStep_12 ?_
    have hsp := Option.some.inj hsp
    subst hsp
    have hw : ww A s.heap D [w5 cA a0 v0] H locs := hw
    subst hQ
    exact k_iret hx hb hr hlk hw dX5_nextStep_15
  · have hsp := ift c1 hsp
    refine lv_iconst (v := -1) hx hb dX5_nextStep_7 (by decide) ?_
    refine lv_goto (tgt := 15) hx hb dX5_nextStep_8 (by decide) ?_
    have hsp := Option.some.inj hsp
    subst hsp
    have hw : ww A s.heap D [w5 cA a0 v0] H locs := hw
    subst hQ
    exact k_iret hx hb hr hlk hw dX5_nextStep_15
noncomputable def sX5_covers (v0 : V5) (p1 : Int32) (p2 : Int32) : Option (Int32) := ((sX9_get v0.1 p1 (0 : Int32)).bind (fun o1 => (if p2 < o1 then (some (0 : Int32)) else ((sX9_get v0.1 p1 (1 : Int32)).bind (fun o3 => (if o3 < p2 then (some (0 : Int32)) else (some (1 : Int32))))))))
abbrev rX5_covers : Room := { frames := 1, cells := 0, slots := 0, locals := 22 }
set_option maxHeartbeats 4000000 in
set_option maxRecDepth 100000 in
theorem mX5_covers (l : Launch) (D : va_G) (cA cR : ClassId) (a0 : A5) (v0 : V5) (p1 : Int32) (p2 : Int32) (o : Int32) (hsp : sX5_covers v0 p1 p2 = some o) : MI l yX5_covers wsX5_covers rX5_covers D cA cR [.ref a0.1, .int p1, .int p2] [w5 cA a0 v0] (some (.int o)) [w5 cA a0 v0] 0 0 := by
  have hsp : ((sX9_get v0.1 p1 (0 : Int32)).bind (fun o1 => (if p2 < o1 then (some (0 : Int32)) else ((sX9_get v0.1 p1 (1 : Int32)).bind (fun o3 => (if o3 < p2 then (some (0 : Int32)) else (some (1 : Int32)))))))) = some o := hsp
  refine MI.ofW (cc := cX5_covers) (maxL := 3) (ret := (some .boolean)) (by decide) rfl (Nat.le_of_ble_eq_true rfl) ?_
  intro p e s m args below meth c A ls Q H locs hx hb hr hlk hml hown hnm hts hz hA hQ hw hl
  have hl : lv_has ls 3 [(0, .ref a0.1), (1, .int p1), (2, .int p2)] := hl
  have hw : ww A s.heap D [[(a0.1, .inr (5, [.ref a0.2.1, .int v0.2.1, .int v0.2.2.1, .int v0.2.2.2]))], w9 cA a0.2 v0.1] H locs := hw
  refine lv_iload_n hx hb dX5_covers_0 rfl (lv_at hl 2 rfl) ?_
  refine lv_aload_n hx hb dX5_covers_1 rfl (lv_at hl 0 rfl) ?_
  refine k_get (ci := 5) (v := .ref a0.2.1) (C := RX5) (T := TX5) (N := 4) hx hb hts hown hz hw (by decide +kernel) 0 rfl rfl 0 (by decide) (hts (.fieldLink RX5 14 "OccupancyMonitor$Plan" "table" "LOccupancyMonitor$Table;") (by decide +kernel)) (fun _ h9 => h9) rfl dX5_covers_2 ?_
  refine lv_iload_n hx hb dX5_covers_5 rfl (lv_at hl 1 rfl) ?_
  refine lv_iconst (v := 0) hx hb dX5_covers_6 (by decide) ?_
  obtain ⟨o1, hso1, hsp⟩ := bnd_of hsp
  refine k_callV (ci := 9) (C := RX9) (T := TX9) (N := 3) (nA := 2) (As := [.int p1, .int (0 : Int32)]) (cs := [w9 cA a0.2 v0.1]) (rs := [[(a0.1, .inr (5, [.ref a0.2.1, .int v0.2.1, .int v0.2.2.1, .int v0.2.2.2]))]]) (cs1 := [w9 cA a0.2 v0.1]) (bs1 := [[(a0.1, .inr (5, [.ref a0.2.1, .int v0.2.1, .int v0.2.2.1, .int v0.2.2.2]))], w9 cA a0.2 v0.1]) (rest := [.int p2]) (st1 := [.int o1, .int p2]) ⟨hx, hb, hml, hown, hts⟩ hz hw hA (mX9_get l D cA cR a0.2 v0.1 p1 (0 : Int32) o1 hso1) gX5_covers_X9_get rfl rfl rfl (by decide +kernel) rfl ⟨Nat.le_of_ble_eq_true rfl, Nat.le_of_ble_eq_true rfl⟩ rfl rfl hl.1 rfl (Nat.le_of_ble_eq_true rfl) dX5_covers_7 ⟨Nat.le_of_ble_eq_true rfl, Nat.le_of_ble_eq_true rfl⟩ [1] [0] [0, 1] rfl rfl rfl rfl rfl rfl (fun H locs hw => ?_)
  refine lv_icmp_lt (tgt := 30) hx hb dX5_covers_10 (by decide) (fun c2 => ?_) (fun c2 => ?_)
  · have hsp := ift c2 hsp
    refine lv_iconst (v := 0) hx hb dX5_covers_30 (by decide) ?_
    have hsp := Option.some.inj hsp
    subst hsp
    have hw : ww A s.heap D [w5 cA a0 v0] H locs := hw
    subst hQ
    exact k_zret (v := (0 : Int32)) hx hb hr hlk rfl hw dX5_covers_31
  · have hsp := iff_ c2 hsp
    refine lv_iload_n hx hb dX5_covers_13 rfl (lv_at hl 2 rfl) ?_
    refine lv_aload_n hx hb dX5_covers_14 rfl (lv_at hl 0 rfl) ?_
    refine k_get (ci := 5) (v := .ref a0.2.1) (C := RX5) (T := TX5) (N := 4) hx hb hts hown hz hw (by decide +kernel) 0 rfl rfl 0 (by decide) (hts (.fieldLink RX5 14 "OccupancyMonitor$Plan" "table" "LOccupancyMonitor$Table;") (by decide +kernel)) (fun _ h9 => h9) rfl dX5_covers_15 ?_
    refine lv_iload_n hx hb dX5_covers_18 rfl (lv_at hl 1 rfl) ?_
    refine lv_iconst (v := 1) hx hb dX5_covers_19 (by decide) ?_
    obtain ⟨o3, hso3, hsp⟩ := bnd_of hsp
    refine k_callV (ci := 9) (C := RX9) (T := TX9) (N := 3) (nA := 2) (As := [.int p1, .int (1 : Int32)]) (cs := [w9 cA a0.2 v0.1]) (rs := [[(a0.1, .inr (5, [.ref a0.2.1, .int v0.2.1, .int v0.2.2.1, .int v0.2.2.2]))]]) (cs1 := [w9 cA a0.2 v0.1]) (bs1 := [[(a0.1, .inr (5, [.ref a0.2.1, .int v0.2.1, .int v0.2.2.1, .int v0.2.2.2]))], w9 cA a0.2 v0.1]) (rest := [.int p2]) (st1 := [.int o3, .int p2]) ⟨hx, hb, hml, hown, hts⟩ hz hw hA (mX9_get l D cA cR a0.2 v0.1 p1 (1 : Int32) o3 hso3) gX5_covers_X9_get rfl rfl rfl (by decide +kernel) rfl ⟨Nat.le_of_ble_eq_true rfl, Nat.le_of_ble_eq_true rfl⟩ rfl rfl hl.1 rfl (Nat.le_of_ble_eq_true rfl) dX5_covers_20 ⟨Nat.le_of_ble_eq_true rfl, Nat.le_of_ble_eq_true rfl⟩ [1] [0] [0, 1] rfl rfl rfl rfl rfl rfl (fun H locs hw => ?_)
    refine lv_icmp_gt (tgt := 30) hx hb dX5_covers_23 (by decide) (fun c4 => ?_) (fun c4 => ?_)
    · have hsp := ift c4 hsp
      refine lv_iconst (v := 0) hx hb dX5_covers_30 (by decide) ?_
      have hsp := Option.some.inj hsp
      subst hsp
      have hw : ww A s.heap D [w5 cA a0 v0] H locs := hw
      subst hQ
      exact k_zret (v := (0 : Int32)) hx hb hr hlk rfl hw dX5_covers_31
    · have hsp := iff_ c4 hsp
      refine lv_iconst (v := 1) hx hb dX5_covers_26 (by decide) ?_
      refine lv_goto (tgt := 31) hx hb dX5_covers_27 (by decide) ?_
      have hsp := Option.some.inj hsp
      subst hsp
      have hw : ww A s.heap D [w5 cA a0 v0] H locs := hw
      subst hQ
      exact k_zret (v := (1 : Int32)) hx hb hr hlk rfl hw dX5_covers_31
noncomputable def sX5_passTick (v0 : V5) : Option (V5) := ((sX9_get v0.1 v0.2.2.1 (2 : Int32)).bind (fun o1 => (if (v0.2.2.2 + (1 : Int32)) < o1 then (some (v0.1, v0.2.1, v0.2.2.1, (v0.2.2.2 + (1 : Int32)))) else (if v0.2.1 ≤ (v0.2.2.1 + (1 : Int32)) then (some (v0.1, v0.2.1, (0 : Int32), (0 : Int32))) else (some (v0.1, v0.2.1, (v0.2.2.1 + (1 : Int32)), (0 : Int32)))))))
abbrev rX5_passTick : Room := { frames := 1, cells := 0, slots := 0, locals := 22 }
set_option maxHeartbeats 4000000 in
set_option maxRecDepth 100000 in
theorem mX5_passTick (l : Launch) (D : va_G) (cA cR : ClassId) (a0 : A5) (v0 : V5) (o : V5) (hsp : sX5_passTick v0 = some o) : MI l yX5_passTick wsX5_passTick rX5_passTick D cA cR [.ref a0.1] [w5 cA a0 v0] none [w5 cA a0 o] 0 0 := by
  have hsp : ((sX9_get v0.1 v0.2.2.1 (2 : Int32)).bind (fun o1 => (if (v0.2.2.2 + (1 : Int32)) < o1 then (some (v0.1, v0.2.1, v0.2.2.1, (v0.2.2.2 + (1 : Int32)))) else (if v0.2.1 ≤ (v0.2.2.1 + (1 : Int32)) then (some (v0.1, v0.2.1, (0 : Int32), (0 : Int32))) else (some (v0.1, v0.2.1, (v0.2.2.1 + (1 : Int32)), (0 : Int32))))))) = some o := hsp
  refine MI.ofW (cc := cX5_passTick) (maxL := 1) (ret := none) (by decide) rfl (Nat.le_of_ble_eq_true rfl) ?_
  intro p e s m args below meth c A ls Q H locs hx hb hr hlk hml hown hnm hts hz hA hQ hw hl
  have hl : lv_has ls 1 [(0, .ref a0.1)] := hl
  have hw : ww A s.heap D [[(a0.1, .inr (5, [.ref a0.2.1, .int v0.2.1, .int v0.2.2.1, .int v0.2.2.2]))], w9 cA a0.2 v0.1] H locs := hw
  refine lv_aload_n hx hb dX5_passTick_0 rfl (lv_at hl 0 rfl) ?_
  refine lv_dup hx hb dX5_passTick_1 rfl ?_
  refine k_get (ci := 5) (v := .int v0.2.2.2) (C := RX5) (T := TX5) (N := 4) hx hb hts hown hz hw (by decide +kernel) 0 rfl rfl 3 (by decide) (hts (.fieldLink RX5 27 "OccupancyMonitor$Plan" "elapsed" "I") (by decide +kernel)) (fun _ h9 => h9) rfl dX5_passTick_2 ?_
  refine lv_iconst (v := 1) hx hb dX5_passTick_5 (by decide) ?_
  refine lv_iadd hx hb dX5_passTick_6 ?_
  refine k_put (ci := 5) (v := .int (v0.2.2.2 + (1 : Int32))) (ty := .int) (C := RX5) (T := TX5) (N := 4) (bs1 := [[(a0.1, .inr (5, [.ref a0.2.1, .int v0.2.1, .int v0.2.2.1, .int (v0.2.2.2 + (1 : Int32))]))], w9 cA a0.2 v0.1]) hx hb hts hown hz hw (by decide +kernel) tyX5 tyX5_ok nmX5 0 rfl rfl 3 (by decide) (hts (.fieldLink RX5 27 "OccupancyMonitor$Plan" "elapsed" "I") (by decide +kernel)) (fun _ h9 => h9) rfl (by decide +kernel) rfl rfl (Nat.le_of_ble_eq_true rfl) dX5_passTick_7 rfl (fun H locs hw => ?_)
  refine lv_aload_n hx hb dX5_passTick_10 rfl (lv_at hl 0 rfl) ?_
  refine k_get (ci := 5) (v := .int (v0.2.2.2 + (1 : Int32))) (C := RX5) (T := TX5) (N := 4) hx hb hts hown hz hw (by decide +kernel) 0 rfl rfl 3 (by decide) (hts (.fieldLink RX5 27 "OccupancyMonitor$Plan" "elapsed" "I") (by decide +kernel)) (fun _ h9 => h9) rfl dX5_passTick_11 ?_
  refine lv_aload_n hx hb dX5_passTick_14 rfl (lv_at hl 0 rfl) ?_
  refine k_get (ci := 5) (v := .ref a0.2.1) (C := RX5) (T := TX5) (N := 4) hx hb hts hown hz hw (by decide +kernel) 0 rfl rfl 0 (by decide) (hts (.fieldLink RX5 14 "OccupancyMonitor$Plan" "table" "LOccupancyMonitor$Table;") (by decide +kernel)) (fun _ h9 => h9) rfl dX5_passTick_15 ?_
  refine lv_aload_n hx hb dX5_passTick_18 rfl (lv_at hl 0 rfl) ?_
  refine k_get (ci := 5) (v := .int v0.2.2.1) (C := RX5) (T := TX5) (N := 4) hx hb hts hown hz hw (by decide +kernel) 0 rfl rfl 2 (by decide) (hts (.fieldLink RX5 24 "OccupancyMonitor$Plan" "present" "I") (by decide +kernel)) (fun _ h9 => h9) rfl dX5_passTick_19 ?_
  refine lv_iconst (v := 2) hx hb dX5_passTick_22 (by decide) ?_
  obtain ⟨o1, hso1, hsp⟩ := bnd_of hsp
  refine k_callV (ci := 9) (C := RX9) (T := TX9) (N := 3) (nA := 2) (As := [.int v0.2.2.1, .int (2 : Int32)]) (cs := [w9 cA a0.2 v0.1]) (rs := [[(a0.1, .inr (5, [.ref a0.2.1, .int v0.2.1, .int v0.2.2.1, .int (v0.2.2.2 + (1 : Int32))]))]]) (cs1 := [w9 cA a0.2 v0.1]) (bs1 := [[(a0.1, .inr (5, [.ref a0.2.1, .int v0.2.1, .int v0.2.2.1, .int (v0.2.2.2 + (1 : Int32))]))], w9 cA a0.2 v0.1]) (rest := [.int (v0.2.2.2 + (1 : Int32))]) (st1 := [.int o1, .int (v0.2.2.2 + (1 : Int32))]) ⟨hx, hb, hml, hown, hts⟩ hz hw hA (mX9_get l D cA cR a0.2 v0.1 v0.2.2.1 (2 : Int32) o1 hso1) gX5_passTick_X9_get rfl rfl rfl (by decide +kernel) rfl ⟨Nat.le_of_ble_eq_true rfl, Nat.le_of_ble_eq_true rfl⟩ rfl rfl hl.1 rfl (Nat.le_of_ble_eq_true rfl) dX5_passTick_23 ⟨Nat.le_of_ble_eq_true rfl, Nat.le_of_ble_eq_true rfl⟩ [1] [0] [0, 1] rfl rfl rfl rfl rfl rfl (fun H locs hw => ?_)
  refine lv_icmp_lt (tgt := 61) hx hb dX5_passTick_26 (by decide) (fun c2 => ?_) (fun c2 => ?_)
  · have hsp := ift c2 hsp
    have hsp := Option.some.inj hsp
    subst hsp
    have hw : ww A s.heap D [w5 cA a0 (v0.1, v0.2.1, v0.2.2.1, (v0.2.2.2 + (1 : Int32)))] H locs := hw
    subst hQ
    exact k_vret hx hb hr hlk hw dX5_passTick_61
  · have hsp := iff_ c2 hsp
    refine lv_aload_n hx hb dX5_passTick_29 rfl (lv_at hl 0 rfl) ?_
    refine lv_iconst (v := 0) hx hb dX5_passTick_30 (by decide) ?_
    refine k_put (ci := 5) (v := .int (0 : Int32)) (ty := .int) (C := RX5) (T := TX5) (N := 4) (bs1 := [[(a0.1, .inr (5, [.ref a0.2.1, .int v0.2.1, .int v0.2.2.1, .int (0 : Int32)]))], w9 cA a0.2 v0.1]) hx hb hts hown hz hw (by decide +kernel) tyX5 tyX5_ok nmX5 0 rfl rfl 3 (by decide) (hts (.fieldLink RX5 27 "OccupancyMonitor$Plan" "elapsed" "I") (by decide +kernel)) (fun _ h9 => h9) rfl (by decide +kernel) rfl rfl (Nat.le_of_ble_eq_true rfl) dX5_passTick_31 rfl (fun H locs hw => ?_)
    refine lv_aload_n hx hb dX5_passTick_34 rfl (lv_at hl 0 rfl) ?_
    refine lv_aload_n hx hb dX5_passTick_35 rfl (lv_at hl 0 rfl) ?_
    refine k_get (ci := 5) (v := .int v0.2.2.1) (C := RX5) (T := TX5) (N := 4) hx hb hts hown hz hw (by decide +kernel) 0 rfl rfl 2 (by decide) (hts (.fieldLink RX5 24 "OccupancyMonitor$Plan" "present" "I") (by decide +kernel)) (fun _ h9 => h9) rfl dX5_passTick_36 ?_
    refine lv_iconst (v := 1) hx hb dX5_passTick_39 (by decide) ?_
    refine lv_iadd hx hb dX5_passTick_40 ?_
    refine lv_aload_n hx hb dX5_passTick_41 rfl (lv_at hl 0 rfl) ?_
    refine k_get (ci := 5) (v := .int v0.2.1) (C := RX5) (T := TX5) (N := 4) hx hb hts hown hz hw (by decide +kernel) 0 rfl rfl 1 (by decide) (hts (.fieldLink RX5 20 "OccupancyMonitor$Plan" "count" "I") (by decide +kernel)) (fun _ h9 => h9) rfl dX5_passTick_42 ?_
    refine lv_icmp_ge (tgt := 57) hx hb dX5_passTick_45 (by decide) (fun c3 => ?_) (fun c3 => ?_)
    · have hsp := ift c3 hsp
      refine lv_iconst (v := 0) hx hb dX5_passTick_57 (by decide) ?_
      refine k_put (ci := 5) (v := .int (0 : Int32)) (ty := .int) (C := RX5) (T := TX5) (N := 4) (bs1 := [[(a0.1, .inr (5, [.ref a0.2.1, .int v0.2.1, .int (0 : Int32), .int (0 : Int32)]))], w9 cA a0.2 v0.1]) hx hb hts hown hz hw (by decide +kernel) tyX5 tyX5_ok nmX5 0 rfl rfl 2 (by decide) (hts (.fieldLink RX5 24 "OccupancyMonitor$Plan" "present" "I") (by decide +kernel)) (fun _ h9 => h9) rfl (by decide +kernel) rfl rfl (Nat.le_of_ble_eq_true rfl) dX5_passTick_58 rfl (fun H locs hw => ?_)
      have hsp := Option.some.inj hsp
      subst hsp
      have hw : ww A s.heap D [w5 cA a0 (v0.1, v0.2.1, (0 : Int32), (0 : Int32))] H locs := hw
      subst hQ
      exact k_vret hx hb hr hlk hw dX5_passTick_61
    · have hsp := iff_ c3 hsp
      refine lv_aload_n hx hb dX5_passTick_48 rfl (lv_at hl 0 rfl) ?_
      refine k_get (ci := 5) (v := .int v0.2.2.1) (C := RX5) (T := TX5) (N := 4) hx hb hts hown hz hw (by decide +kernel) 0 rfl rfl 2 (by decide) (hts (.fieldLink RX5 24 "OccupancyMonitor$Plan" "present" "I") (by decide +kernel)) (fun _ h9 => h9) rfl dX5_passTick_49 ?_
      refine lv_iconst (v := 1) hx hb dX5_passTick_52 (by decide) ?_
      refine lv_iadd hx hb dX5_passTick_53 ?_
      refine lv_goto (tgt := 58) hx hb dX5_passTick_54 (by decide) ?_
      refine k_put (ci := 5) (v := .int (v0.2.2.1 + (1 : Int32))) (ty := .int) (C := RX5) (T := TX5) (N := 4) (bs1 := [[(a0.1, .inr (5, [.ref a0.2.1, .int v0.2.1, .int (v0.2.2.1 + (1 : Int32)), .int (0 : Int32)]))], w9 cA a0.2 v0.1]) hx hb hts hown hz hw (by decide +kernel) tyX5 tyX5_ok nmX5 0 rfl rfl 2 (by decide) (hts (.fieldLink RX5 24 "OccupancyMonitor$Plan" "present" "I") (by decide +kernel)) (fun _ h9 => h9) rfl (by decide +kernel) rfl rfl (Nat.le_of_ble_eq_true rfl) dX5_passTick_58 rfl (fun H locs hw => ?_)
      have hsp := Option.some.inj hsp
      subst hsp
      have hw : ww A s.heap D [w5 cA a0 (v0.1, v0.2.1, (v0.2.2.1 + (1 : Int32)), (0 : Int32))] H locs := hw
      subst hQ
      exact k_vret hx hb hr hlk hw dX5_passTick_61
noncomputable def qX5_revisitTime_10 (v0 : V5) (p1 : Int32) : Nat → Int32 → Int32 → Int32 → Int32 → Option (Int32 × Int32 × Int32 × Int32)
  | 0, _, _, _, _ => none
  | n10 + 1, z10_0, z10_1, z10_2, z10_3 => (if ((2 : Int32) * v0.2.1) ≤ z10_2 then (some (z10_3, z10_0, z10_1, z10_2)) else (((if v0.2.1 ≤ z10_2 then (some (z10_2 - v0.2.1)) else (some z10_2)) : Option (Int32)).bind (fun j56 => ((sX5_covers v0 j56 p1).bind (fun o57 => (((if o57 = 0 then ((sX9_get v0.1 j56 (2 : Int32)).bind (fun o72 => (some (z10_3, (z10_0 + o72), z10_1)))) else (((if z10_1 = 0 then (some z10_3) else (lt_ (if z10_3 < (z10_0 + (1 : Int32)) then (z10_0 + (1 : Int32)) else z10_3) (fun x71 => (some x71)))) : Option (Int32)).bind (fun j69 => (some (j69, (0 : Int32), (1 : Int32)))))) : Option (Int32 × Int32 × Int32)).bind (fun j65 => (qX5_revisitTime_10 v0 p1 n10 j65.2.1 j65.2.2 (z10_2 + 1) j65.1))))))))
noncomputable def sX5_revisitTime (N : Nat) (v0 : V5) (p1 : Int32) : Option (Int32) := ((qX5_revisitTime_10 v0 p1 N (0 : Int32) (0 : Int32) (0 : Int32) (-1 : Int32)).bind (fun o53 => (some o53.1)))
abbrev rX5_revisitTime : Room := { frames := 2, cells := 0, slots := 0, locals := 44 }
set_option maxHeartbeats 4000000 in
set_option maxRecDepth 100000 in
theorem mX5_revisitTime (l : Launch) (D : va_G) (cA cR : ClassId) (N : Nat) (a0 : A5) (v0 : V5) (p1 : Int32) (o : Int32) (hsp : sX5_revisitTime N v0 p1 = some o) : MI l yX5_revisitTime wsX5_revisitTime rX5_revisitTime D cA cR [.ref a0.1, .int p1] [w5 cA a0 v0] (some (.int o)) [w5 cA a0 v0] 0 0 := by
  have hsp : ((qX5_revisitTime_10 v0 p1 N (0 : Int32) (0 : Int32) (0 : Int32) (-1 : Int32)).bind (fun o53 => (some o53.1))) = some o := hsp
  refine MI.ofW (cc := cX5_revisitTime) (maxL := 7) (ret := (some .int)) (by decide) rfl (Nat.le_of_ble_eq_true rfl) ?_
  intro p e s m args below meth c A ls Q H locs hx hb hr hlk hml hown hnm hts hz hA hQ hw hl
  have hl : lv_has ls 7 [(0, .ref a0.1), (1, .int p1)] := hl
  have hw : ww A s.heap D [[(a0.1, .inr (5, [.ref a0.2.1, .int v0.2.1, .int v0.2.2.1, .int v0.2.2.2]))], w9 cA a0.2 v0.1] H locs := hw
  refine lv_iconst (v := -1) hx hb dX5_revisitTime_0 (by decide) ?_
  refine lv_istore_n (lv' := [(2, .int (-1 : Int32)), (0, .ref a0.1), (1, .int p1)]) hx hb dX5_revisitTime_1 rfl hl (by decide) rfl (fun ls hl => ?_)
  refine lv_iconst (v := 0) hx hb dX5_revisitTime_2 (by decide) ?_
  refine lv_istore_n (lv' := [(3, .int (0 : Int32)), (2, .int (-1 : Int32)), (0, .ref a0.1), (1, .int p1)]) hx hb dX5_revisitTime_3 rfl hl (by decide) rfl (fun ls hl => ?_)
  refine lv_iconst (v := 0) hx hb dX5_revisitTime_4 (by decide) ?_
  refine lv_istore (lv' := [(4, .int (0 : Int32)), (3, .int (0 : Int32)), (2, .int (-1 : Int32)), (0, .ref a0.1), (1, .int p1)]) hx hb dX5_revisitTime_5 hl (by decide) rfl (fun ls hl => ?_)
  refine lv_iconst (v := 0) hx hb dX5_revisitTime_7 (by decide) ?_
  refine lv_istore (lv' := [(5, .int (0 : Int32)), (4, .int (0 : Int32)), (3, .int (0 : Int32)), (2, .int (-1 : Int32)), (0, .ref a0.1), (1, .int p1)]) hx hb dX5_revisitTime_8 hl (by decide) rfl (fun ls hl => ?_)
  have L10 : ∀ (n10 : Nat) (z10_0 : Int32) (z10_1 : Int32) (z10_2 : Int32) (z10_3 : Int32) (o53 : Int32 × Int32 × Int32 × Int32), qX5_revisitTime_10 v0 p1 n10 z10_0 z10_1 z10_2 z10_3 = some o53 → ∀ (H : Heap) (locs : List Loc) (ls : Array Slot), ww A s.heap D [[(a0.1, .inr (5, [.ref a0.2.1, .int v0.2.1, .int v0.2.2.1, .int v0.2.2.2]))], w9 cA a0.2 v0.1] H locs → lv_has ls 7 [(0, .ref a0.1), (1, .int p1), (2, .int z10_3), (3, .int z10_0), (4, .int z10_1), (5, .int z10_2)] → (∀ (y94 : Int32 × Int32 × Int32 × Int32), o53 = y94 → ∀ (H : Heap) (locs : List Loc) (ls : Array Slot), ww A s.heap D [[(a0.1, .inr (5, [.ref a0.2.1, .int v0.2.1, .int v0.2.2.1, .int v0.2.2.2]))], w9 cA a0.2 v0.1] H locs → lv_has ls 7 [(0, .ref a0.1), (1, .int p1), (2, .int y94.1), (3, .int y94.2.1), (4, .int y94.2.2.1), (5, .int y94.2.2.2)] → W p l e rX5_revisitTime s m args below meth c H locs 0 0 Q (F0 m 94 ls [])) → W p l e rX5_revisitTime s m args below meth c H locs 0 0 Q (F0 m 10 ls []) := by
    intro n10
    induction n10 with
    | zero => intro z10_0 z10_1 z10_2 z10_3 o53 hsp; cases hsp
    | succ n10 ih10 =>
      intro z10_0 z10_1 z10_2 z10_3 o53 hsp H locs ls hw hl kx10_94
      have hsp : (if ((2 : Int32) * v0.2.1) ≤ z10_2 then (some (z10_3, z10_0, z10_1, z10_2)) else (((if v0.2.1 ≤ z10_2 then (some (z10_2 - v0.2.1)) else (some z10_2)) : Option (Int32)).bind (fun j56 => ((sX5_covers v0 j56 p1).bind (fun o57 => (((if o57 = 0 then ((sX9_get v0.1 j56 (2 : Int32)).bind (fun o72 => (some (z10_3, (z10_0 + o72), z10_1)))) else (((if z10_1 = 0 then (some z10_3) else (lt_ (if z10_3 < (z10_0 + (1 : Int32)) then (z10_0 + (1 : Int32)) else z10_3) (fun x71 => (some x71)))) : Option (Int32)).bind (fun j69 => (some (j69, (0 : Int32), (1 : Int32)))))) : Option (Int32 × Int32 × Int32)).bind (fun j65 => (qX5_revisitTime_10 v0 p1 n10 j65.2.1 j65.2.2 (z10_2 + 1) j65.1)))))))) = some o53 := hsp
      refine lv_iload hx hb dX5_revisitTime_10 (lv_at hl 5 rfl) ?_
      refine lv_iconst (v := 2) hx hb dX5_revisitTime_12 (by decide) ?_
      refine lv_aload_n hx hb dX5_revisitTime_13 rfl (lv_at hl 0 rfl) ?_
      refine k_get (ci := 5) (v := .int v0.2.1) (C := RX5) (T := TX5) (N := 4) hx hb hts hown hz hw (by decide +kernel) 0 rfl rfl 1 (by decide) (hts (.fieldLink RX5 20 "OccupancyMonitor$Plan" "count" "I") (by decide +kernel)) (fun _ h9 => h9) rfl dX5_revisitTime_14 ?_
      refine lv_imul hx hb dX5_revisitTime_17 ?_
      refine lv_icmp_ge (tgt := 94) hx hb dX5_revisitTime_18 (by decide) (fun c54 => ?_) (fun c54 => ?_)
      · have hsp := ift c54 hsp
        have hsp := Option.some.inj hsp
        subst hsp
        exact kx10_94 _ rfl _ _ _ hw (lv_sub hl [0, 1, 2, 3, 4, 5] rfl)
      · have hsp := iff_ c54 hsp
        refine lv_iload hx hb dX5_revisitTime_21 (lv_at hl 5 rfl) ?_
        refine lv_aload_n hx hb dX5_revisitTime_23 rfl (lv_at hl 0 rfl) ?_
        refine k_get (ci := 5) (v := .int v0.2.1) (C := RX5) (T := TX5) (N := 4) hx hb hts hown hz hw (by decide +kernel) 0 rfl rfl 1 (by decide) (hts (.fieldLink RX5 20 "OccupancyMonitor$Plan" "count" "I") (by decide +kernel)) (fun _ h9 => h9) rfl dX5_revisitTime_24 ?_
        obtain ⟨j56, hsj56, hkj56⟩ := bnd_of hsp
        have Jj56 : ∀ (H : Heap) (locs : List Loc) (ls : Array Slot), ww A s.heap D [[(a0.1, .inr (5, [.ref a0.2.1, .int v0.2.1, .int v0.2.2.1, .int v0.2.2.2]))], w9 cA a0.2 v0.1] H locs → lv_has ls 7 [(0, .ref a0.1), (1, .int p1), (2, .int z10_3), (3, .int z10_0), (4, .int z10_1), (5, .int z10_2)] → W p l e rX5_revisitTime s m args below meth c H locs 0 0 Q (F0 m 42 ls [.int j56]) := by
          intro H locs ls hw hl
          have hsp := hkj56
          refine lv_istore (lv' := [(6, .int j56), (0, .ref a0.1), (1, .int p1), (2, .int z10_3), (3, .int z10_0), (4, .int z10_1), (5, .int z10_2)]) hx hb dX5_revisitTime_42 hl (by decide) rfl (fun ls hl => ?_)
          refine lv_aload_n hx hb dX5_revisitTime_44 rfl (lv_at hl 1 rfl) ?_
          refine lv_iload hx hb dX5_revisitTime_45 (lv_at hl 0 rfl) ?_
          refine lv_iload_n hx hb dX5_revisitTime_47 rfl (lv_at hl 2 rfl) ?_
          have hw : ww A s.heap D [w5 cA a0 v0] H locs := hw
          obtain ⟨o57, hso57, hsp⟩ := bnd_of hsp
          refine k_callV (ci := 5) (C := RX5) (T := TX5) (N := 4) (nA := 2) (As := [.int j56, .int p1]) (cs := [w5 cA a0 v0]) (rs := []) (cs1 := [w5 cA a0 v0]) (bs1 := [w5 cA a0 v0]) (rest := []) (st1 := [.int o57]) ⟨hx, hb, hml, hown, hts⟩ hz hw hA (mX5_covers l D cA cR a0 v0 j56 p1 o57 hso57) gX5_revisitTime_X5_covers rfl rfl rfl (by decide +kernel) rfl ⟨Nat.le_of_ble_eq_true rfl, Nat.le_of_ble_eq_true rfl⟩ rfl rfl hl.1 rfl (Nat.le_of_ble_eq_true rfl) dX5_revisitTime_48 ⟨Nat.le_of_ble_eq_true rfl, Nat.le_of_ble_eq_true rfl⟩ [0] [] [0] rfl rfl rfl rfl rfl rfl (fun H locs hw => ?_)
          have hw : ww A s.heap D [[(a0.1, .inr (5, [.ref a0.2.1, .int v0.2.1, .int v0.2.2.1, .int v0.2.2.2]))], w9 cA a0.2 v0.1] H locs := hw
          obtain ⟨j65, hsj65, hkj65⟩ := bnd_of hsp
          have Jj65 : ∀ (H : Heap) (locs : List Loc) (ls : Array Slot), ww A s.heap D [[(a0.1, .inr (5, [.ref a0.2.1, .int v0.2.1, .int v0.2.2.1, .int v0.2.2.2]))], w9 cA a0.2 v0.1] H locs → lv_has ls 7 [(0, .ref a0.1), (1, .int p1), (2, .int j65.1), (3, .int j65.2.1), (4, .int j65.2.2), (5, .int z10_2), (6, .int j56)] → W p l e rX5_revisitTime s m args below meth c H locs 0 0 Q (F0 m 88 ls []) := by
            intro H locs ls hw hl
            have hsp := hkj65
            refine lv_iinc (v := (z10_2 + 1)) (lv' := [(5, .int (z10_2 + 1)), (0, .ref a0.1), (1, .int p1), (2, .int j65.1), (3, .int j65.2.1), (4, .int j65.2.2), (6, .int j56)]) hx hb dX5_revisitTime_88 hl (k := 5) rfl rfl (by decide) rfl (fun ls hl => ?_)
            refine lv_goto (tgt := 10) hx hb dX5_revisitTime_91 (by decide) ?_
            exact ih10 j65.2.1 j65.2.2 (z10_2 + 1) j65.1 _ hsp _ _ _ hw (lv_sub hl [1, 2, 3, 4, 5, 0] rfl) kx10_94
          have hsp := hsj65
          refine lv_if_ne (tgt := 70) hx hb dX5_revisitTime_51 (by decide) (fun c66 => ?_) (fun c66 => ?_)
          · have hsp := iff_ c66 hsp
            refine lv_iload hx hb dX5_revisitTime_70 (lv_at hl 5 rfl) ?_
            obtain ⟨j69, hsj69, hkj69⟩ := bnd_of hsp
            have Jj69 : ∀ (H : Heap) (locs : List Loc) (ls : Array Slot), ww A s.heap D [[(a0.1, .inr (5, [.ref a0.2.1, .int v0.2.1, .int v0.2.2.1, .int v0.2.2.2]))], w9 cA a0.2 v0.1] H locs → lv_has ls 7 [(0, .ref a0.1), (1, .int p1), (2, .int j69), (3, .int z10_0), (4, .int z10_1), (5, .int z10_2), (6, .int j56)] → W p l e rX5_revisitTime s m args below meth c H locs 0 0 Q (F0 m 83 ls []) := by
              intro H locs ls hw hl
              have hsp := hkj69
              refine lv_iconst (v := 1) hx hb dX5_revisitTime_83 (by decide) ?_
              refine lv_istore (lv' := [(4, .int (1 : Int32)), (0, .ref a0.1), (1, .int p1), (2, .int j69), (3, .int z10_0), (5, .int z10_2), (6, .int j56)]) hx hb dX5_revisitTime_84 hl (by decide) rfl (fun ls hl => ?_)
              refine lv_iconst (v := 0) hx hb dX5_revisitTime_86 (by decide) ?_
              refine lv_istore_n (lv' := [(3, .int (0 : Int32)), (4, .int (1 : Int32)), (0, .ref a0.1), (1, .int p1), (2, .int j69), (5, .int z10_2), (6, .int j56)]) hx hb dX5_revisitTime_87 rfl hl (by decide) rfl (fun ls hl => ?_)
              have hsp := Option.some.inj hsp
              subst hsp
              exact Jj65 _ _ _ hw (lv_sub hl [2, 3, 4, 0, 1, 5, 6] rfl)
            have hsp := hsj69
            refine lv_if_eq (tgt := 83) hx hb dX5_revisitTime_72 (by decide) (fun c70 => ?_) (fun c70 => ?_)
            · have hsp := ift c70 hsp
              have hsp := Option.some.inj hsp
              subst hsp
              exact Jj69 _ _ _ hw (lv_sub hl [1, 2, 3, 4, 5, 6, 0] rfl)
            · have hsp := iff_ c70 hsp
              refine lv_iload_n hx hb dX5_revisitTime_75 rfl (lv_at hl 3 rfl) ?_
              refine lv_iload_n hx hb dX5_revisitTime_76 rfl (lv_at hl 4 rfl) ?_
              refine lv_iconst (v := 1) hx hb dX5_revisitTime_77 (by decide) ?_
              refine lv_iadd hx hb dX5_revisitTime_78 ?_
              refine va_mmax hx hb (by rw [hml]; exact hl.1.symm) hown (hts (.methodLink RX5 42 Lib.Math.max.name) (by decide +kernel)) (hts (.static Lib.Math.max.name) (by decide +kernel)) (hts (.initialized "java/lang/Math") (by decide +kernel)) (hts (.code Lib.Math.max.name Lib.Math.max.code 2 (some .int)) (by decide +kernel)) (Nat.le_of_ble_eq_true rfl) (Nat.le_of_ble_eq_true rfl) (Nat.le_of_ble_eq_true rfl) (Nat.le_of_ble_eq_true rfl) dX5_revisitTime_79 ?_
              refine lv_topi (fun x71 ex71 => ?_)
              have hsp := lt_of hsp ex71
              refine lv_istore_n (lv' := [(2, .int x71), (6, .int j56), (0, .ref a0.1), (1, .int p1), (3, .int z10_0), (4, .int z10_1), (5, .int z10_2)]) hx hb dX5_revisitTime_82 rfl hl (by decide) rfl (fun ls hl => ?_)
              have hsp := Option.some.inj hsp
              subst hsp
              exact Jj69 _ _ _ hw (lv_sub hl [2, 3, 0, 4, 5, 6, 1] rfl)
          · have hsp := ift c66 hsp
            refine lv_iload_n hx hb dX5_revisitTime_54 rfl (lv_at hl 4 rfl) ?_
            refine lv_aload_n hx hb dX5_revisitTime_55 rfl (lv_at hl 1 rfl) ?_
            refine k_get (ci := 5) (v := .ref a0.2.1) (C := RX5) (T := TX5) (N := 4) hx hb hts hown hz hw (by decide +kernel) 0 rfl rfl 0 (by decide) (hts (.fieldLink RX5 14 "OccupancyMonitor$Plan" "table" "LOccupancyMonitor$Table;") (by decide +kernel)) (fun _ h9 => h9) rfl dX5_revisitTime_56 ?_
            refine lv_iload hx hb dX5_revisitTime_59 (lv_at hl 0 rfl) ?_
            refine lv_iconst (v := 2) hx hb dX5_revisitTime_61 (by decide) ?_
            obtain ⟨o72, hso72, hsp⟩ := bnd_of hsp
            refine k_callV (ci := 9) (C := RX9) (T := TX9) (N := 3) (nA := 2) (As := [.int j56, .int (2 : Int32)]) (cs := [w9 cA a0.2 v0.1]) (rs := [[(a0.1, .inr (5, [.ref a0.2.1, .int v0.2.1, .int v0.2.2.1, .int v0.2.2.2]))]]) (cs1 := [w9 cA a0.2 v0.1]) (bs1 := [[(a0.1, .inr (5, [.ref a0.2.1, .int v0.2.1, .int v0.2.2.1, .int v0.2.2.2]))], w9 cA a0.2 v0.1]) (rest := [.int z10_0]) (st1 := [.int o72, .int z10_0]) ⟨hx, hb, hml, hown, hts⟩ hz hw hA (mX9_get l D cA cR a0.2 v0.1 j56 (2 : Int32) o72 hso72) gX5_revisitTime_X9_get rfl rfl rfl (by decide +kernel) rfl ⟨Nat.le_of_ble_eq_true rfl, Nat.le_of_ble_eq_true rfl⟩ rfl rfl hl.1 rfl (Nat.le_of_ble_eq_true rfl) dX5_revisitTime_62 ⟨Nat.le_of_ble_eq_true rfl, Nat.le_of_ble_eq_true rfl⟩ [1] [0] [0, 1] rfl rfl rfl rfl rfl rfl (fun H locs hw => ?_)
            refine lv_iadd hx hb dX5_revisitTime_65 ?_
            refine lv_istore_n (lv' := [(3, .int (z10_0 + o72)), (6, .int j56), (0, .ref a0.1), (1, .int p1), (2, .int z10_3), (4, .int z10_1), (5, .int z10_2)]) hx hb dX5_revisitTime_66 rfl hl (by decide) rfl (fun ls hl => ?_)
            refine lv_goto (tgt := 88) hx hb dX5_revisitTime_67 (by decide) ?_
            have hsp := Option.some.inj hsp
            subst hsp
            exact Jj65 _ _ _ hw (lv_sub hl [2, 3, 4, 0, 5, 6, 1] rfl)
        have hsp := hsj56
        refine lv_icmp_ge (tgt := 35) hx hb dX5_revisitTime_27 (by decide) (fun c73 => ?_) (fun c73 => ?_)
        · have hsp := ift c73 hsp
          refine lv_iload hx hb dX5_revisitTime_35 (lv_at hl 5 rfl) ?_
          refine lv_aload_n hx hb dX5_revisitTime_37 rfl (lv_at hl 0 rfl) ?_
          refine k_get (ci := 5) (v := .int v0.2.1) (C := RX5) (T := TX5) (N := 4) hx hb hts hown hz hw (by decide +kernel) 0 rfl rfl 1 (by decide) (hts (.fieldLink RX5 20 "OccupancyMonitor$Plan" "count" "I") (by decide +kernel)) (fun _ h9 => h9) rfl dX5_revisitTime_38 ?_
          refine lv_isub hx hb dX5_revisitTime_41 ?_
          have hsp := Option.some.inj hsp
          subst hsp
          exact Jj56 _ _ _ hw (lv_sub hl [0, 1, 2, 3, 4, 5] rfl)
        · have hsp := iff_ c73 hsp
          refine lv_iload hx hb dX5_revisitTime_30 (lv_at hl 5 rfl) ?_
          refine lv_goto (tgt := 42) hx hb dX5_revisitTime_32 (by decide) ?_
          have hsp := Option.some.inj hsp
          subst hsp
          exact Jj56 _ _ _ hw (lv_sub hl [0, 1, 2, 3, 4, 5] rfl)
  obtain ⟨o53, hso53, hsp⟩ := bnd_of hsp
  refine L10 N (0 : Int32) (0 : Int32) (0 : Int32) (-1 : Int32) _ hso53 _ _ _ hw (lv_sub hl [4, 5, 3, 2, 1, 0] rfl) (fun y94 hy94 H locs ls hw hl => ?_)
  cases hy94
  refine lv_iload_n hx hb dX5_revisitTime_94 rfl (lv_at hl 2 rfl) ?_
  have hsp := Option.some.inj hsp
  subst hsp
  have hw : ww A s.heap D [w5 cA a0 v0] H locs := hw
  subst hQ
  exact k_iret hx hb hr hlk hw dX5_revisitTime_95
noncomputable def qX5_write_7 (v0 : V5) : Nat → Int32 → Nat → (Nat → Int32) → Int32 → Option (Int32 × Nat × (Nat → Int32) × Int32)
  | 0, _, _, _, _ => none
  | n7 + 1, z7_0, z7_1, z7_2, z7_3 => (if v0.2.1 ≤ z7_0 then (some (z7_0, z7_1, z7_2, z7_3)) else ((sX9_get v0.1 z7_0 (0 : Int32)).bind (fun o33 => ((sX9_get v0.1 z7_0 (1 : Int32)).bind (fun o34 => ((sX0_putNumber ((z7_1, z7_2), z7_3) o33).bind (fun o35 => (((if o34 = o33 then (some (o35.1.1, o35.1.2, o35.2)) else ((sX0_put o35 (45 : Int32)).bind (fun o45 => ((sX0_putNumber o45 o34).bind (fun o46 => (some (o46.1.1, o46.1.2, o46.2))))))) : Option (Nat × (Nat → Int32) × Int32)).bind (fun j39 => ((sX0_put ((j39.1, j39.2.1), j39.2.2) (58 : Int32)).bind (fun o40 => ((sX9_get v0.1 z7_0 (2 : Int32)).bind (fun o41 => ((sX0_putNumber o40 o41).bind (fun o42 => ((sX0_put o42 (59 : Int32)).bind (fun o43 => (qX5_write_7 v0 n7 (z7_0 + 1) o43.1.1 o43.1.2 o43.2))))))))))))))))))
noncomputable def sX5_write (N : Nat) (v0 : V5) (v1 : V0) : Option (V0) := ((qX5_write_7 v0 N (0 : Int32) v1.1.1 v1.1.2 (0 : Int32)).bind (fun o31 => (some ((o31.2.1, o31.2.2.1), o31.2.2.2))))
abbrev rX5_write : Room := { frames := 3, cells := 0, slots := 0, locals := 63 }
set_option maxHeartbeats 4000000 in
set_option maxRecDepth 100000 in
theorem mX5_write (l : Launch) (D : va_G) (cA cR : ClassId) (N : Nat) (a0 : A5) (v0 : V5) (a1 : A0) (v1 : V0) (o : V0) (hsp : sX5_write N v0 v1 = some o) : MI l yX5_write wsX5_write rX5_write D cA cR [.ref a0.1, .ref a1.1] [w5 cA a0 v0, w0 cA a1 v1] none [w5 cA a0 v0, w0 cA a1 o] 0 0 := by
  have hsp : ((qX5_write_7 v0 N (0 : Int32) v1.1.1 v1.1.2 (0 : Int32)).bind (fun o31 => (some ((o31.2.1, o31.2.2.1), o31.2.2.2)))) = some o := hsp
  refine MI.ofW (cc := cX5_write) (maxL := 5) (ret := none) (by decide) rfl (Nat.le_of_ble_eq_true rfl) ?_
  intro p e s m args below meth c A ls Q H locs hx hb hr hlk hml hown hnm hts hz hA hQ hw hl
  have hl : lv_has ls 5 [(0, .ref a0.1), (1, .ref a1.1)] := hl
  have hw : ww A s.heap D [[(a0.1, .inr (5, [.ref a0.2.1, .int v0.2.1, .int v0.2.2.1, .int v0.2.2.2]))], w9 cA a0.2 v0.1, [(a1.1, .inr (0, [.ref a1.2, .int v1.2]))], [(a1.2, .inl (cA, v1.1.1, .inl v1.1.2))]] H locs := hw
  refine lv_aload_n hx hb dX5_write_0 rfl (lv_at hl 1 rfl) ?_
  refine lv_iconst (v := 0) hx hb dX5_write_1 (by decide) ?_
  refine k_putN (ci := 0) (v := .int (0 : Int32)) (ty := .int) (C := RX0) (T := TX0) (N := 2) (bs1 := [[(a0.1, .inr (5, [.ref a0.2.1, .int v0.2.1, .int v0.2.2.1, .int v0.2.2.2]))], w9 cA a0.2 v0.1, [(a1.1, .inr (0, [.ref a1.2, .int (0 : Int32)]))], [(a1.2, .inl (cA, v1.1.1, .inl v1.1.2))]]) (host := "OccupancyMonitor") hx hb hts hown hz hw (by decide +kernel) tyX0 tyX0_ok nmX0 2 rfl rfl 1 (by decide) (by decide +kernel) (fun _ h9 => h9) rfl (by decide +kernel) rfl rfl (Nat.le_of_ble_eq_true rfl) dX5_write_2 rfl (fun H locs hw => ?_)
  refine lv_iconst (v := 0) hx hb dX5_write_5 (by decide) ?_
  refine lv_istore_n (lv' := [(2, .int (0 : Int32)), (0, .ref a0.1), (1, .ref a1.1)]) hx hb dX5_write_6 rfl hl (by decide) rfl (fun ls hl => ?_)
  have L7 : ∀ (n7 : Nat) (z7_0 : Int32) (z7_1 : Nat) (z7_2 : (Nat → Int32)) (z7_3 : Int32) (o31 : Int32 × Nat × (Nat → Int32) × Int32), qX5_write_7 v0 n7 z7_0 z7_1 z7_2 z7_3 = some o31 → ∀ (H : Heap) (locs : List Loc) (ls : Array Slot), ww A s.heap D [[(a0.1, .inr (5, [.ref a0.2.1, .int v0.2.1, .int v0.2.2.1, .int v0.2.2.2]))], w9 cA a0.2 v0.1, [(a1.1, .inr (0, [.ref a1.2, .int z7_3]))], [(a1.2, .inl (cA, z7_1, .inl z7_2))]] H locs → lv_has ls 5 [(0, .ref a0.1), (1, .ref a1.1), (2, .int z7_0)] → (∀ (y90 : Int32 × Nat × (Nat → Int32) × Int32), o31 = y90 → ∀ (H : Heap) (locs : List Loc) (ls : Array Slot), ww A s.heap D [[(a0.1, .inr (5, [.ref a0.2.1, .int v0.2.1, .int v0.2.2.1, .int v0.2.2.2]))], w9 cA a0.2 v0.1, [(a1.1, .inr (0, [.ref a1.2, .int y90.2.2.2]))], [(a1.2, .inl (cA, y90.2.1, .inl y90.2.2.1))]] H locs → lv_has ls 5 [(0, .ref a0.1), (1, .ref a1.1), (2, .int y90.1)] → W p l e rX5_write s m args below meth c H locs 0 0 Q (F0 m 90 ls [])) → W p l e rX5_write s m args below meth c H locs 0 0 Q (F0 m 7 ls []) := by
    intro n7
    induction n7 with
    | zero => intro z7_0 z7_1 z7_2 z7_3 o31 hsp; cases hsp
    | succ n7 ih7 =>
      intro z7_0 z7_1 z7_2 z7_3 o31 hsp H locs ls hw hl kx7_90
      have hsp : (if v0.2.1 ≤ z7_0 then (some (z7_0, z7_1, z7_2, z7_3)) else ((sX9_get v0.1 z7_0 (0 : Int32)).bind (fun o33 => ((sX9_get v0.1 z7_0 (1 : Int32)).bind (fun o34 => ((sX0_putNumber ((z7_1, z7_2), z7_3) o33).bind (fun o35 => (((if o34 = o33 then (some (o35.1.1, o35.1.2, o35.2)) else ((sX0_put o35 (45 : Int32)).bind (fun o45 => ((sX0_putNumber o45 o34).bind (fun o46 => (some (o46.1.1, o46.1.2, o46.2))))))) : Option (Nat × (Nat → Int32) × Int32)).bind (fun j39 => ((sX0_put ((j39.1, j39.2.1), j39.2.2) (58 : Int32)).bind (fun o40 => ((sX9_get v0.1 z7_0 (2 : Int32)).bind (fun o41 => ((sX0_putNumber o40 o41).bind (fun o42 => ((sX0_put o42 (59 : Int32)).bind (fun o43 => (qX5_write_7 v0 n7 (z7_0 + 1) o43.1.1 o43.1.2 o43.2)))))))))))))))))) = some o31 := hsp
      refine lv_iload_n hx hb dX5_write_7 rfl (lv_at hl 2 rfl) ?_
      refine lv_aload_n hx hb dX5_write_8 rfl (lv_at hl 0 rfl) ?_
      refine k_get (ci := 5) (v := .int v0.2.1) (C := RX5) (T := TX5) (N := 4) hx hb hts hown hz hw (by decide +kernel) 0 rfl rfl 1 (by decide) (hts (.fieldLink RX5 20 "OccupancyMonitor$Plan" "count" "I") (by decide +kernel)) (fun _ h9 => h9) rfl dX5_write_9 ?_
      refine lv_icmp_ge (tgt := 90) hx hb dX5_write_12 (by decide) (fun c32 => ?_) (fun c32 => ?_)
      · have hsp := ift c32 hsp
        have hsp := Option.some.inj hsp
        subst hsp
        exact kx7_90 _ rfl _ _ _ hw (lv_sub hl [0, 1, 2] rfl)
      · have hsp := iff_ c32 hsp
        refine lv_aload_n hx hb dX5_write_15 rfl (lv_at hl 0 rfl) ?_
        refine k_get (ci := 5) (v := .ref a0.2.1) (C := RX5) (T := TX5) (N := 4) hx hb hts hown hz hw (by decide +kernel) 0 rfl rfl 0 (by decide) (hts (.fieldLink RX5 14 "OccupancyMonitor$Plan" "table" "LOccupancyMonitor$Table;") (by decide +kernel)) (fun _ h9 => h9) rfl dX5_write_16 ?_
        refine lv_iload_n hx hb dX5_write_19 rfl (lv_at hl 2 rfl) ?_
        refine lv_iconst (v := 0) hx hb dX5_write_20 (by decide) ?_
        obtain ⟨o33, hso33, hsp⟩ := bnd_of hsp
        refine k_callV (ci := 9) (C := RX9) (T := TX9) (N := 3) (nA := 2) (As := [.int z7_0, .int (0 : Int32)]) (cs := [w9 cA a0.2 v0.1]) (rs := [[(a0.1, .inr (5, [.ref a0.2.1, .int v0.2.1, .int v0.2.2.1, .int v0.2.2.2]))], [(a1.1, .inr (0, [.ref a1.2, .int z7_3]))], [(a1.2, .inl (cA, z7_1, .inl z7_2))]]) (cs1 := [w9 cA a0.2 v0.1]) (bs1 := [[(a0.1, .inr (5, [.ref a0.2.1, .int v0.2.1, .int v0.2.2.1, .int v0.2.2.2]))], w9 cA a0.2 v0.1, [(a1.1, .inr (0, [.ref a1.2, .int z7_3]))], [(a1.2, .inl (cA, z7_1, .inl z7_2))]]) (rest := []) (st1 := [.int o33]) ⟨hx, hb, hml, hown, hts⟩ hz hw hA (mX9_get l D cA cR a0.2 v0.1 z7_0 (0 : Int32) o33 hso33) gX5_write_X9_get rfl rfl rfl (by decide +kernel) rfl ⟨Nat.le_of_ble_eq_true rfl, Nat.le_of_ble_eq_true rfl⟩ rfl rfl hl.1 rfl (Nat.le_of_ble_eq_true rfl) dX5_write_21 ⟨Nat.le_of_ble_eq_true rfl, Nat.le_of_ble_eq_true rfl⟩ [1] [0, 2, 3] [0, 3, 1, 2] rfl rfl rfl rfl rfl rfl (fun H locs hw => ?_)
        refine lv_istore_n (lv' := [(3, .int o33), (0, .ref a0.1), (1, .ref a1.1), (2, .int z7_0)]) hx hb dX5_write_24 rfl hl (by decide) rfl (fun ls hl => ?_)
        refine lv_aload_n hx hb dX5_write_25 rfl (lv_at hl 1 rfl) ?_
        refine k_get (ci := 5) (v := .ref a0.2.1) (C := RX5) (T := TX5) (N := 4) hx hb hts hown hz hw (by decide +kernel) 0 rfl rfl 0 (by decide) (hts (.fieldLink RX5 14 "OccupancyMonitor$Plan" "table" "LOccupancyMonitor$Table;") (by decide +kernel)) (fun _ h9 => h9) rfl dX5_write_26 ?_
        refine lv_iload_n hx hb dX5_write_29 rfl (lv_at hl 3 rfl) ?_
        refine lv_iconst (v := 1) hx hb dX5_write_30 (by decide) ?_
        obtain ⟨o34, hso34, hsp⟩ := bnd_of hsp
        refine k_callV (ci := 9) (C := RX9) (T := TX9) (N := 3) (nA := 2) (As := [.int z7_0, .int (1 : Int32)]) (cs := [w9 cA a0.2 v0.1]) (rs := [[(a0.1, .inr (5, [.ref a0.2.1, .int v0.2.1, .int v0.2.2.1, .int v0.2.2.2]))], [(a1.1, .inr (0, [.ref a1.2, .int z7_3]))], [(a1.2, .inl (cA, z7_1, .inl z7_2))]]) (cs1 := [w9 cA a0.2 v0.1]) (bs1 := [[(a0.1, .inr (5, [.ref a0.2.1, .int v0.2.1, .int v0.2.2.1, .int v0.2.2.2]))], w9 cA a0.2 v0.1, [(a1.1, .inr (0, [.ref a1.2, .int z7_3]))], [(a1.2, .inl (cA, z7_1, .inl z7_2))]]) (rest := []) (st1 := [.int o34]) ⟨hx, hb, hml, hown, hts⟩ hz hw hA (mX9_get l D cA cR a0.2 v0.1 z7_0 (1 : Int32) o34 hso34) gX5_write_X9_get rfl rfl rfl (by decide +kernel) rfl ⟨Nat.le_of_ble_eq_true rfl, Nat.le_of_ble_eq_true rfl⟩ rfl rfl hl.1 rfl (Nat.le_of_ble_eq_true rfl) dX5_write_31 ⟨Nat.le_of_ble_eq_true rfl, Nat.le_of_ble_eq_true rfl⟩ [1] [0, 2, 3] [0, 3, 1, 2] rfl rfl rfl rfl rfl rfl (fun H locs hw => ?_)
        refine lv_istore (lv' := [(4, .int o34), (3, .int o33), (0, .ref a0.1), (1, .ref a1.1), (2, .int z7_0)]) hx hb dX5_write_34 hl (by decide) rfl (fun ls hl => ?_)
        refine lv_aload_n hx hb dX5_write_36 rfl (lv_at hl 3 rfl) ?_
        refine lv_iload_n hx hb dX5_write_37 rfl (lv_at hl 1 rfl) ?_
        have hw : ww A s.heap D [[(a0.1, .inr (5, [.ref a0.2.1, .int v0.2.1, .int v0.2.2.1, .int v0.2.2.2]))], w9 cA a0.2 v0.1, w0 cA a1 ((z7_1, z7_2), z7_3)] H locs := hw
        obtain ⟨o35, hso35, hsp⟩ := bnd_of hsp
        refine k_callV (ci := 0) (C := RX0) (T := TX0) (N := 2) (nA := 1) (As := [.int o33]) (cs := [w0 cA a1 ((z7_1, z7_2), z7_3)]) (rs := [[(a0.1, .inr (5, [.ref a0.2.1, .int v0.2.1, .int v0.2.2.1, .int v0.2.2.2]))], w9 cA a0.2 v0.1]) (cs1 := [w0 cA a1 o35]) (bs1 := [[(a0.1, .inr (5, [.ref a0.2.1, .int v0.2.1, .int v0.2.2.1, .int v0.2.2.2]))], w9 cA a0.2 v0.1, w0 cA a1 o35]) (rest := []) (st1 := []) ⟨hx, hb, hml, hown, hts⟩ hz hw hA (mX0_putNumber l D cA cR a1 ((z7_1, z7_2), z7_3) o33 o35 hso35) gX5_write_X0_putNumber rfl rfl rfl (by decide +kernel) rfl ⟨Nat.le_of_ble_eq_true rfl, Nat.le_of_ble_eq_true rfl⟩ rfl rfl hl.1 rfl (Nat.le_of_ble_eq_true rfl) dX5_write_38 ⟨Nat.le_of_ble_eq_true rfl, Nat.le_of_ble_eq_true rfl⟩ [2] [0, 1] [0, 1, 2] rfl rfl rfl rfl rfl rfl (fun H locs hw => ?_)
        have hw : ww A s.heap D [[(a0.1, .inr (5, [.ref a0.2.1, .int v0.2.1, .int v0.2.2.1, .int v0.2.2.2]))], w9 cA a0.2 v0.1, [(a1.1, .inr (0, [.ref a1.2, .int o35.2]))], [(a1.2, .inl (cA, o35.1.1, .inl o35.1.2))]] H locs := hw
        refine lv_iload hx hb dX5_write_41 (lv_at hl 0 rfl) ?_
        refine lv_iload_n hx hb dX5_write_43 rfl (lv_at hl 1 rfl) ?_
        obtain ⟨j39, hsj39, hkj39⟩ := bnd_of hsp
        have Jj39 : ∀ (H : Heap) (locs : List Loc) (ls : Array Slot), ww A s.heap D [[(a0.1, .inr (5, [.ref a0.2.1, .int v0.2.1, .int v0.2.2.1, .int v0.2.2.2]))], w9 cA a0.2 v0.1, [(a1.1, .inr (0, [.ref a1.2, .int j39.2.2]))], [(a1.2, .inl (cA, j39.1, .inl j39.2.1))]] H locs → lv_has ls 5 [(0, .ref a0.1), (1, .ref a1.1), (2, .int z7_0), (3, .int o33), (4, .int o34)] → W p l e rX5_write s m args below meth c H locs 0 0 Q (F0 m 59 ls []) := by
          intro H locs ls hw hl
          have hsp := hkj39
          refine lv_aload_n hx hb dX5_write_59 rfl (lv_at hl 1 rfl) ?_
          refine lv_bipush (v := 58) hx hb dX5_write_60 (by decide) ?_
          have hw : ww A s.heap D [[(a0.1, .inr (5, [.ref a0.2.1, .int v0.2.1, .int v0.2.2.1, .int v0.2.2.2]))], w9 cA a0.2 v0.1, w0 cA a1 ((j39.1, j39.2.1), j39.2.2)] H locs := hw
          obtain ⟨o40, hso40, hsp⟩ := bnd_of hsp
          refine k_callV (ci := 0) (C := RX0) (T := TX0) (N := 2) (nA := 1) (As := [.int (58 : Int32)]) (cs := [w0 cA a1 ((j39.1, j39.2.1), j39.2.2)]) (rs := [[(a0.1, .inr (5, [.ref a0.2.1, .int v0.2.1, .int v0.2.2.1, .int v0.2.2.2]))], w9 cA a0.2 v0.1]) (cs1 := [w0 cA a1 o40]) (bs1 := [[(a0.1, .inr (5, [.ref a0.2.1, .int v0.2.1, .int v0.2.2.1, .int v0.2.2.2]))], w9 cA a0.2 v0.1, w0 cA a1 o40]) (rest := []) (st1 := []) ⟨hx, hb, hml, hown, hts⟩ hz hw hA (mX0_put l D cA cR a1 ((j39.1, j39.2.1), j39.2.2) (58 : Int32) o40 hso40) gX5_write_X0_put rfl rfl rfl (by decide +kernel) rfl ⟨Nat.le_of_ble_eq_true rfl, Nat.le_of_ble_eq_true rfl⟩ rfl rfl hl.1 rfl (Nat.le_of_ble_eq_true rfl) dX5_write_62 ⟨Nat.le_of_ble_eq_true rfl, Nat.le_of_ble_eq_true rfl⟩ [2] [0, 1] [0, 1, 2] rfl rfl rfl rfl rfl rfl (fun H locs hw => ?_)
          have hw : ww A s.heap D [[(a0.1, .inr (5, [.ref a0.2.1, .int v0.2.1, .int v0.2.2.1, .int v0.2.2.2]))], w9 cA a0.2 v0.1, [(a1.1, .inr (0, [.ref a1.2, .int o40.2]))], [(a1.2, .inl (cA, o40.1.1, .inl o40.1.2))]] H locs := hw
          refine lv_aload_n hx hb dX5_write_65 rfl (lv_at hl 1 rfl) ?_
          refine lv_aload_n hx hb dX5_write_66 rfl (lv_at hl 0 rfl) ?_
          refine k_get (ci := 5) (v := .ref a0.2.1) (C := RX5) (T := TX5) (N := 4) hx hb hts hown hz hw (by decide +kernel) 0 rfl rfl 0 (by decide) (hts (.fieldLink RX5 14 "OccupancyMonitor$Plan" "table" "LOccupancyMonitor$Table;") (by decide +kernel)) (fun _ h9 => h9) rfl dX5_write_67 ?_
          refine lv_iload_n hx hb dX5_write_70 rfl (lv_at hl 2 rfl) ?_
          refine lv_iconst (v := 2) hx hb dX5_write_71 (by decide) ?_
          obtain ⟨o41, hso41, hsp⟩ := bnd_of hsp
          refine k_callV (ci := 9) (C := RX9) (T := TX9) (N := 3) (nA := 2) (As := [.int z7_0, .int (2 : Int32)]) (cs := [w9 cA a0.2 v0.1]) (rs := [[(a0.1, .inr (5, [.ref a0.2.1, .int v0.2.1, .int v0.2.2.1, .int v0.2.2.2]))], [(a1.1, .inr (0, [.ref a1.2, .int o40.2]))], [(a1.2, .inl (cA, o40.1.1, .inl o40.1.2))]]) (cs1 := [w9 cA a0.2 v0.1]) (bs1 := [[(a0.1, .inr (5, [.ref a0.2.1, .int v0.2.1, .int v0.2.2.1, .int v0.2.2.2]))], w9 cA a0.2 v0.1, [(a1.1, .inr (0, [.ref a1.2, .int o40.2]))], [(a1.2, .inl (cA, o40.1.1, .inl o40.1.2))]]) (rest := [.ref a1.1]) (st1 := [.int o41, .ref a1.1]) ⟨hx, hb, hml, hown, hts⟩ hz hw hA (mX9_get l D cA cR a0.2 v0.1 z7_0 (2 : Int32) o41 hso41) gX5_write_X9_get rfl rfl rfl (by decide +kernel) rfl ⟨Nat.le_of_ble_eq_true rfl, Nat.le_of_ble_eq_true rfl⟩ rfl rfl hl.1 rfl (Nat.le_of_ble_eq_true rfl) dX5_write_72 ⟨Nat.le_of_ble_eq_true rfl, Nat.le_of_ble_eq_true rfl⟩ [1] [0, 2, 3] [0, 3, 1, 2] rfl rfl rfl rfl rfl rfl (fun H locs hw => ?_)
          have hw : ww A s.heap D [[(a0.1, .inr (5, [.ref a0.2.1, .int v0.2.1, .int v0.2.2.1, .int v0.2.2.2]))], w9 cA a0.2 v0.1, w0 cA a1 o40] H locs := hw
          obtain ⟨o42, hso42, hsp⟩ := bnd_of hsp
          refine k_callV (ci := 0) (C := RX0) (T := TX0) (N := 2) (nA := 1) (As := [.int o41]) (cs := [w0 cA a1 o40]) (rs := [[(a0.1, .inr (5, [.ref a0.2.1, .int v0.2.1, .int v0.2.2.1, .int v0.2.2.2]))], w9 cA a0.2 v0.1]) (cs1 := [w0 cA a1 o42]) (bs1 := [[(a0.1, .inr (5, [.ref a0.2.1, .int v0.2.1, .int v0.2.2.1, .int v0.2.2.2]))], w9 cA a0.2 v0.1, w0 cA a1 o42]) (rest := []) (st1 := []) ⟨hx, hb, hml, hown, hts⟩ hz hw hA (mX0_putNumber l D cA cR a1 o40 o41 o42 hso42) gX5_write_X0_putNumber rfl rfl rfl (by decide +kernel) rfl ⟨Nat.le_of_ble_eq_true rfl, Nat.le_of_ble_eq_true rfl⟩ rfl rfl hl.1 rfl (Nat.le_of_ble_eq_true rfl) dX5_write_75 ⟨Nat.le_of_ble_eq_true rfl, Nat.le_of_ble_eq_true rfl⟩ [2] [0, 1] [0, 1, 2] rfl rfl rfl rfl rfl rfl (fun H locs hw => ?_)
          have hw : ww A s.heap D [[(a0.1, .inr (5, [.ref a0.2.1, .int v0.2.1, .int v0.2.2.1, .int v0.2.2.2]))], w9 cA a0.2 v0.1, [(a1.1, .inr (0, [.ref a1.2, .int o42.2]))], [(a1.2, .inl (cA, o42.1.1, .inl o42.1.2))]] H locs := hw
          refine lv_aload_n hx hb dX5_write_78 rfl (lv_at hl 1 rfl) ?_
          refine lv_bipush (v := 59) hx hb dX5_write_79 (by decide) ?_
          have hw : ww A s.heap D [[(a0.1, .inr (5, [.ref a0.2.1, .int v0.2.1, .int v0.2.2.1, .int v0.2.2.2]))], w9 cA a0.2 v0.1, w0 cA a1 o42] H locs := hw
          obtain ⟨o43, hso43, hsp⟩ := bnd_of hsp
          refine k_callV (ci := 0) (C := RX0) (T := TX0) (N := 2) (nA := 1) (As := [.int (59 : Int32)]) (cs := [w0 cA a1 o42]) (rs := [[(a0.1, .inr (5, [.ref a0.2.1, .int v0.2.1, .int v0.2.2.1, .int v0.2.2.2]))], w9 cA a0.2 v0.1]) (cs1 := [w0 cA a1 o43]) (bs1 := [[(a0.1, .inr (5, [.ref a0.2.1, .int v0.2.1, .int v0.2.2.1, .int v0.2.2.2]))], w9 cA a0.2 v0.1, w0 cA a1 o43]) (rest := []) (st1 := []) ⟨hx, hb, hml, hown, hts⟩ hz hw hA (mX0_put l D cA cR a1 o42 (59 : Int32) o43 hso43) gX5_write_X0_put rfl rfl rfl (by decide +kernel) rfl ⟨Nat.le_of_ble_eq_true rfl, Nat.le_of_ble_eq_true rfl⟩ rfl rfl hl.1 rfl (Nat.le_of_ble_eq_true rfl) dX5_write_81 ⟨Nat.le_of_ble_eq_true rfl, Nat.le_of_ble_eq_true rfl⟩ [2] [0, 1] [0, 1, 2] rfl rfl rfl rfl rfl rfl (fun H locs hw => ?_)
          have hw : ww A s.heap D [[(a0.1, .inr (5, [.ref a0.2.1, .int v0.2.1, .int v0.2.2.1, .int v0.2.2.2]))], w9 cA a0.2 v0.1, [(a1.1, .inr (0, [.ref a1.2, .int o43.2]))], [(a1.2, .inl (cA, o43.1.1, .inl o43.1.2))]] H locs := hw
          refine lv_iinc (v := (z7_0 + 1)) (lv' := [(2, .int (z7_0 + 1)), (0, .ref a0.1), (1, .ref a1.1), (3, .int o33), (4, .int o34)]) hx hb dX5_write_84 hl (k := 2) rfl rfl (by decide) rfl (fun ls hl => ?_)
          refine lv_goto (tgt := 7) hx hb dX5_write_87 (by decide) ?_
          exact ih7 (z7_0 + 1) o43.1.1 o43.1.2 o43.2 _ hsp _ _ _ hw (lv_sub hl [1, 2, 0] rfl) kx7_90
        have hsp := hsj39
        refine lv_icmp_eq (tgt := 59) hx hb dX5_write_44 (by decide) (fun c44 => ?_) (fun c44 => ?_)
        · have hsp := ift c44 hsp
          have hsp := Option.some.inj hsp
          subst hsp
          exact Jj39 _ _ _ hw (lv_sub hl [2, 3, 4, 1, 0] rfl)
        · have hsp := iff_ c44 hsp
          refine lv_aload_n hx hb dX5_write_47 rfl (lv_at hl 3 rfl) ?_
          refine lv_bipush (v := 45) hx hb dX5_write_48 (by decide) ?_
          have hw : ww A s.heap D [[(a0.1, .inr (5, [.ref a0.2.1, .int v0.2.1, .int v0.2.2.1, .int v0.2.2.2]))], w9 cA a0.2 v0.1, w0 cA a1 o35] H locs := hw
          obtain ⟨o45, hso45, hsp⟩ := bnd_of hsp
          refine k_callV (ci := 0) (C := RX0) (T := TX0) (N := 2) (nA := 1) (As := [.int (45 : Int32)]) (cs := [w0 cA a1 o35]) (rs := [[(a0.1, .inr (5, [.ref a0.2.1, .int v0.2.1, .int v0.2.2.1, .int v0.2.2.2]))], w9 cA a0.2 v0.1]) (cs1 := [w0 cA a1 o45]) (bs1 := [[(a0.1, .inr (5, [.ref a0.2.1, .int v0.2.1, .int v0.2.2.1, .int v0.2.2.2]))], w9 cA a0.2 v0.1, w0 cA a1 o45]) (rest := []) (st1 := []) ⟨hx, hb, hml, hown, hts⟩ hz hw hA (mX0_put l D cA cR a1 o35 (45 : Int32) o45 hso45) gX5_write_X0_put rfl rfl rfl (by decide +kernel) rfl ⟨Nat.le_of_ble_eq_true rfl, Nat.le_of_ble_eq_true rfl⟩ rfl rfl hl.1 rfl (Nat.le_of_ble_eq_true rfl) dX5_write_50 ⟨Nat.le_of_ble_eq_true rfl, Nat.le_of_ble_eq_true rfl⟩ [2] [0, 1] [0, 1, 2] rfl rfl rfl rfl rfl rfl (fun H locs hw => ?_)
          have hw : ww A s.heap D [[(a0.1, .inr (5, [.ref a0.2.1, .int v0.2.1, .int v0.2.2.1, .int v0.2.2.2]))], w9 cA a0.2 v0.1, [(a1.1, .inr (0, [.ref a1.2, .int o45.2]))], [(a1.2, .inl (cA, o45.1.1, .inl o45.1.2))]] H locs := hw
          refine lv_aload_n hx hb dX5_write_53 rfl (lv_at hl 3 rfl) ?_
          refine lv_iload hx hb dX5_write_54 (lv_at hl 0 rfl) ?_
          have hw : ww A s.heap D [[(a0.1, .inr (5, [.ref a0.2.1, .int v0.2.1, .int v0.2.2.1, .int v0.2.2.2]))], w9 cA a0.2 v0.1, w0 cA a1 o45] H locs := hw
          obtain ⟨o46, hso46, hsp⟩ := bnd_of hsp
          refine k_callV (ci := 0) (C := RX0) (T := TX0) (N := 2) (nA := 1) (As := [.int o34]) (cs := [w0 cA a1 o45]) (rs := [[(a0.1, .inr (5, [.ref a0.2.1, .int v0.2.1, .int v0.2.2.1, .int v0.2.2.2]))], w9 cA a0.2 v0.1]) (cs1 := [w0 cA a1 o46]) (bs1 := [[(a0.1, .inr (5, [.ref a0.2.1, .int v0.2.1, .int v0.2.2.1, .int v0.2.2.2]))], w9 cA a0.2 v0.1, w0 cA a1 o46]) (rest := []) (st1 := []) ⟨hx, hb, hml, hown, hts⟩ hz hw hA (mX0_putNumber l D cA cR a1 o45 o34 o46 hso46) gX5_write_X0_putNumber rfl rfl rfl (by decide +kernel) rfl ⟨Nat.le_of_ble_eq_true rfl, Nat.le_of_ble_eq_true rfl⟩ rfl rfl hl.1 rfl (Nat.le_of_ble_eq_true rfl) dX5_write_56 ⟨Nat.le_of_ble_eq_true rfl, Nat.le_of_ble_eq_true rfl⟩ [2] [0, 1] [0, 1, 2] rfl rfl rfl rfl rfl rfl (fun H locs hw => ?_)
          have hw : ww A s.heap D [[(a0.1, .inr (5, [.ref a0.2.1, .int v0.2.1, .int v0.2.2.1, .int v0.2.2.2]))], w9 cA a0.2 v0.1, [(a1.1, .inr (0, [.ref a1.2, .int o46.2]))], [(a1.2, .inl (cA, o46.1.1, .inl o46.1.2))]] H locs := hw
          have hsp := Option.some.inj hsp
          subst hsp
          exact Jj39 _ _ _ hw (lv_sub hl [2, 3, 4, 1, 0] rfl)
  obtain ⟨o31, hso31, hsp⟩ := bnd_of hsp
  refine L7 N (0 : Int32) v1.1.1 v1.1.2 (0 : Int32) _ hso31 _ _ _ hw (lv_sub hl [1, 2, 0] rfl) (fun y90 hy90 H locs ls hw hl => ?_)
  cases hy90
  have hsp := Option.some.inj hsp
  subst hsp
  have hw : ww A s.heap D [w5 cA a0 v0, w0 cA a1 ((o31.2.1, o31.2.2.1), o31.2.2.2)] H locs := hw
  subst hQ
  exact k_vret hx hb hr hlk hw dX5_write_90
noncomputable def sX5_copyFrom (v0 : V5) (v1 : V5) : Option (V5) := ((sX9_copyFrom v0.1 v1.1).bind (fun o1 => (some (o1, v1.2.1, v1.2.2.1, v1.2.2.2))))
abbrev rX5_copyFrom : Room := { frames := 2, cells := 0, slots := 0, locals := 47 }
set_option maxHeartbeats 4000000 in
set_option maxRecDepth 100000 in
theorem mX5_copyFrom (l : Launch) (D : va_G) (cA cR : ClassId) (a0 : A5) (v0 : V5) (a1 : A5) (v1 : V5) (o : V5) (hsp : sX5_copyFrom v0 v1 = some o) : MI l yX5_copyFrom wsX5_copyFrom rX5_copyFrom D cA cR [.ref a0.1, .ref a1.1] [w5 cA a0 v0, w5 cA a1 v1] none [w5 cA a0 o, w5 cA a1 v1] 0 0 := by
  have hsp : ((sX9_copyFrom v0.1 v1.1).bind (fun o1 => (some (o1, v1.2.1, v1.2.2.1, v1.2.2.2)))) = some o := hsp
  refine MI.ofW (cc := cX5_copyFrom) (maxL := 2) (ret := none) (by decide) rfl (Nat.le_of_ble_eq_true rfl) ?_
  intro p e s m args below meth c A ls Q H locs hx hb hr hlk hml hown hnm hts hz hA hQ hw hl
  have hl : lv_has ls 2 [(0, .ref a0.1), (1, .ref a1.1)] := hl
  have hw : ww A s.heap D [[(a0.1, .inr (5, [.ref a0.2.1, .int v0.2.1, .int v0.2.2.1, .int v0.2.2.2]))], w9 cA a0.2 v0.1, [(a1.1, .inr (5, [.ref a1.2.1, .int v1.2.1, .int v1.2.2.1, .int v1.2.2.2]))], w9 cA a1.2 v1.1] H locs := hw
  refine lv_aload_n hx hb dX5_copyFrom_0 rfl (lv_at hl 0 rfl) ?_
  refine k_get (ci := 5) (v := .ref a0.2.1) (C := RX5) (T := TX5) (N := 4) hx hb hts hown hz hw (by decide +kernel) 0 rfl rfl 0 (by decide) (hts (.fieldLink RX5 14 "OccupancyMonitor$Plan" "table" "LOccupancyMonitor$Table;") (by decide +kernel)) (fun _ h9 => h9) rfl dX5_copyFrom_1 ?_
  refine lv_aload_n hx hb dX5_copyFrom_4 rfl (lv_at hl 1 rfl) ?_
  refine k_get (ci := 5) (v := .ref a1.2.1) (C := RX5) (T := TX5) (N := 4) hx hb hts hown hz hw (by decide +kernel) 2 rfl rfl 0 (by decide) (hts (.fieldLink RX5 14 "OccupancyMonitor$Plan" "table" "LOccupancyMonitor$Table;") (by decide +kernel)) (fun _ h9 => h9) rfl dX5_copyFrom_5 ?_
  obtain ⟨o1, hso1, hsp⟩ := bnd_of hsp
  refine k_callV (ci := 9) (C := RX9) (T := TX9) (N := 3) (nA := 1) (As := [.ref a1.2.1]) (cs := [w9 cA a0.2 v0.1, w9 cA a1.2 v1.1]) (rs := [[(a0.1, .inr (5, [.ref a0.2.1, .int v0.2.1, .int v0.2.2.1, .int v0.2.2.2]))], [(a1.1, .inr (5, [.ref a1.2.1, .int v1.2.1, .int v1.2.2.1, .int v1.2.2.2]))]]) (cs1 := [w9 cA a0.2 o1, w9 cA a1.2 v1.1]) (bs1 := [[(a0.1, .inr (5, [.ref a0.2.1, .int v0.2.1, .int v0.2.2.1, .int v0.2.2.2]))], w9 cA a0.2 o1, [(a1.1, .inr (5, [.ref a1.2.1, .int v1.2.1, .int v1.2.2.1, .int v1.2.2.2]))], w9 cA a1.2 v1.1]) (rest := []) (st1 := []) ⟨hx, hb, hml, hown, hts⟩ hz hw hA (mX9_copyFrom l D cA cR a0.2 v0.1 a1.2 v1.1 o1 hso1) gX5_copyFrom_X9_copyFrom rfl rfl rfl (by decide +kernel) rfl ⟨Nat.le_of_ble_eq_true rfl, Nat.le_of_ble_eq_true rfl⟩ rfl rfl hl.1 rfl (Nat.le_of_ble_eq_true rfl) dX5_copyFrom_8 ⟨Nat.le_of_ble_eq_true rfl, Nat.le_of_ble_eq_true rfl⟩ [1, 3] [0, 2] [0, 2, 1, 3] rfl rfl rfl rfl rfl rfl (fun H locs hw => ?_)
  refine lv_aload_n hx hb dX5_copyFrom_11 rfl (lv_at hl 0 rfl) ?_
  refine lv_aload_n hx hb dX5_copyFrom_12 rfl (lv_at hl 1 rfl) ?_
  refine k_get (ci := 5) (v := .int v1.2.1) (C := RX5) (T := TX5) (N := 4) hx hb hts hown hz hw (by decide +kernel) 2 rfl rfl 1 (by decide) (hts (.fieldLink RX5 20 "OccupancyMonitor$Plan" "count" "I") (by decide +kernel)) (fun _ h9 => h9) rfl dX5_copyFrom_13 ?_
  refine k_put (ci := 5) (v := .int v1.2.1) (ty := .int) (C := RX5) (T := TX5) (N := 4) (bs1 := [[(a0.1, .inr (5, [.ref a0.2.1, .int v1.2.1, .int v0.2.2.1, .int v0.2.2.2]))], w9 cA a0.2 o1, [(a1.1, .inr (5, [.ref a1.2.1, .int v1.2.1, .int v1.2.2.1, .int v1.2.2.2]))], w9 cA a1.2 v1.1]) hx hb hts hown hz hw (by decide +kernel) tyX5 tyX5_ok nmX5 0 rfl rfl 1 (by decide) (hts (.fieldLink RX5 20 "OccupancyMonitor$Plan" "count" "I") (by decide +kernel)) (fun _ h9 => h9) rfl (by decide +kernel) rfl rfl (Nat.le_of_ble_eq_true rfl) dX5_copyFrom_16 rfl (fun H locs hw => ?_)
  refine lv_aload_n hx hb dX5_copyFrom_19 rfl (lv_at hl 0 rfl) ?_
  refine lv_aload_n hx hb dX5_copyFrom_20 rfl (lv_at hl 1 rfl) ?_
  refine k_get (ci := 5) (v := .int v1.2.2.1) (C := RX5) (T := TX5) (N := 4) hx hb hts hown hz hw (by decide +kernel) 2 rfl rfl 2 (by decide) (hts (.fieldLink RX5 24 "OccupancyMonitor$Plan" "present" "I") (by decide +kernel)) (fun _ h9 => h9) rfl dX5_copyFrom_21 ?_
  refine k_put (ci := 5) (v := .int v1.2.2.1) (ty := .int) (C := RX5) (T := TX5) (N := 4) (bs1 := [[(a0.1, .inr (5, [.ref a0.2.1, .int v1.2.1, .int v1.2.2.1, .int v0.2.2.2]))], w9 cA a0.2 o1, [(a1.1, .inr (5, [.ref a1.2.1, .int v1.2.1, .int v1.2.2.1, .int v1.2.2.2]))], w9 cA a1.2 v1.1]) hx hb hts hown hz hw (by decide +kernel) tyX5 tyX5_ok nmX5 0 rfl rfl 2 (by decide) (hts (.fieldLink RX5 24 "OccupancyMonitor$Plan" "present" "I") (by decide +kernel)) (fun _ h9 => h9) rfl (by decide +kernel) rfl rfl (Nat.le_of_ble_eq_true rfl) dX5_copyFrom_24 rfl (fun H locs hw => ?_)
  refine lv_aload_n hx hb dX5_copyFrom_27 rfl (lv_at hl 0 rfl) ?_
  refine lv_aload_n hx hb dX5_copyFrom_28 rfl (lv_at hl 1 rfl) ?_
  refine k_get (ci := 5) (v := .int v1.2.2.2) (C := RX5) (T := TX5) (N := 4) hx hb hts hown hz hw (by decide +kernel) 2 rfl rfl 3 (by decide) (hts (.fieldLink RX5 27 "OccupancyMonitor$Plan" "elapsed" "I") (by decide +kernel)) (fun _ h9 => h9) rfl dX5_copyFrom_29 ?_
  refine k_put (ci := 5) (v := .int v1.2.2.2) (ty := .int) (C := RX5) (T := TX5) (N := 4) (bs1 := [[(a0.1, .inr (5, [.ref a0.2.1, .int v1.2.1, .int v1.2.2.1, .int v1.2.2.2]))], w9 cA a0.2 o1, [(a1.1, .inr (5, [.ref a1.2.1, .int v1.2.1, .int v1.2.2.1, .int v1.2.2.2]))], w9 cA a1.2 v1.1]) hx hb hts hown hz hw (by decide +kernel) tyX5 tyX5_ok nmX5 0 rfl rfl 3 (by decide) (hts (.fieldLink RX5 27 "OccupancyMonitor$Plan" "elapsed" "I") (by decide +kernel)) (fun _ h9 => h9) rfl (by decide +kernel) rfl rfl (Nat.le_of_ble_eq_true rfl) dX5_copyFrom_32 rfl (fun H locs hw => ?_)
  have hsp := Option.some.inj hsp
  subst hsp
  have hw : ww A s.heap D [w5 cA a0 (o1, v1.2.1, v1.2.2.1, v1.2.2.2), w5 cA a1 v1] H locs := hw
  subst hQ
  exact k_vret hx hb hr hlk hw dX5_copyFrom_35
