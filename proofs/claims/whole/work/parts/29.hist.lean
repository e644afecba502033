noncomputable def sX3_stateAt_0 (v0 : V3) : Option (Unit) := ((sX10_within (0 : Int32) (4 : Int32)).bind (fun o1 => (if o1 = 0 then none else (some ()))))
abbrev rX3_stateAt_0 : Room := { frames := 1, cells := 0, slots := 0, locals := 21 }
set_option maxHeartbeats 4000000 in
set_option maxRecDepth 100000 in
theorem mX3_stateAt_0 (l : Launch) (D : va_G) (cA cR : ClassId) (a0 : A3) (v0 : V3) (o : Unit) (hsp : sX3_stateAt_0 v0 = some o) : MI l yX3_stateAt wsX3_stateAt rX3_stateAt_0 D cA cR [.ref a0.1, .int (0 : Int32)] [w3 cA cR a0 v0] (some (.ref a0.2.2.1.1)) [w3 cA cR a0 v0] 0 0 := by
  have hsp : ((sX10_within (0 : Int32) (4 : Int32)).bind (fun o1 => (if o1 = 0 then none else (some ())))) = some o := hsp
  refine MI.ofW (cc := cX3_stateAt) (maxL := 2) (ret := (some (.object "OccupancyMonitor$State"))) (by decide) rfl (Nat.le_of_ble_eq_true rfl) ?_
  intro p e s m args below meth c A ls Q H locs hx hb hr hlk hml hown hnm hts hz hA hQ hw hl
  have hl : lv_has ls 2 [(0, .ref a0.1), (1, .int (0 : Int32))] := hl
  have hw : ww A s.heap D [[(a0.1, .inr (3, [.ref a0.2.1, .int v0.2.2.2.2.1, .int v0.2.2.2.2.2]))], [(a0.2.1, .inl (cR, 4, .inr (.inr (.inr (.inr (rg a0))))))], w8 cA a0.2.2.1 v0.1, w8 cA a0.2.2.2.1 v0.2.1, w8 cA a0.2.2.2.2.1 v0.2.2.1, w8 cA a0.2.2.2.2.2 v0.2.2.2.1] H locs := hw
  refine lv_iload_n hx hb dX3_stateAt_0 rfl (lv_at hl 1 rfl) ?_
  refine lv_aload_n hx hb dX3_stateAt_1 rfl (lv_at hl 0 rfl) ?_
  refine k_get (ci := 3) (v := .ref a0.2.1) (C := RX3) (T := TX3) (N := 3) hx hb hts hown hz hw (by decide +kernel) 0 rfl rfl 0 (by decide) (hts (.fieldLink RX3 11 "OccupancyMonitor$History" "ring" "[LOccupancyMonitor$State;") (by decide +kernel)) (fun _ h9 => h9) rfl dX3_stateAt_2 ?_
  refine k_alenq hx hb hz hw 1 rfl dX3_stateAt_5 ?_
  refine W.eq (g2 := F0 m 6 ls [.int (4 : Int32), .int (0 : Int32)]) rfl ?_
  obtain ⟨o1, hso1, hsp⟩ := bnd_of hsp
  refine k_callSN (nA := 2) (As := [.int (0 : Int32), .int (4 : Int32)]) (host := "OccupancyMonitor") (cs := []) (rs := [[(a0.1, .inr (3, [.ref a0.2.1, .int v0.2.2.2.2.1, .int v0.2.2.2.2.2]))], [(a0.2.1, .inl (cR, 4, .inr (.inr (.inr (.inr (rg a0))))))], w8 cA a0.2.2.1 v0.1, w8 cA a0.2.2.2.1 v0.2.1, w8 cA a0.2.2.2.2.1 v0.2.2.1, w8 cA a0.2.2.2.2.2 v0.2.2.2.1]) (cs1 := []) (bs1 := [[(a0.1, .inr (3, [.ref a0.2.1, .int v0.2.2.2.2.1, .int v0.2.2.2.2.2]))], [(a0.2.1, .inl (cR, 4, .inr (.inr (.inr (.inr (rg a0))))))], w8 cA a0.2.2.1 v0.1, w8 cA a0.2.2.2.1 v0.2.1, w8 cA a0.2.2.2.2.1 v0.2.2.1, w8 cA a0.2.2.2.2.2 v0.2.2.2.1]) (rest := []) (st1 := [.int o1]) ⟨hx, hb, hml, hown, hts⟩ hz hw hA (mX10_within l D cA cR (0 : Int32) (4 : Int32) o1 hso1) gX3_stateAt_X10_within_n39 rfl rfl rfl (by decide +kernel) (by decide +kernel) (by decide +kernel) (by decide +kernel) rfl ⟨Nat.le_of_ble_eq_true rfl, Nat.le_of_ble_eq_true rfl⟩ hl.1 rfl (Nat.le_of_ble_eq_true rfl) dX3_stateAt_6 ⟨Nat.le_of_ble_eq_true rfl, Nat.le_of_ble_eq_true rfl⟩ [] [0, 1, 2, 3, 4, 5] [0, 1, 2, 3, 4, 5] rfl rfl rfl rfl rfl rfl (fun H locs hw => ?_)
  refine lv_if_eq (tgt := 21) hx hb dX3_stateAt_9 (by decide) (fun c2 => ?_) (fun c2 => ?_)
  · have hsp := ift c2 hsp
    cases hsp
  · have hsp := iff_ c2 hsp
    refine lv_aload_n hx hb dX3_stateAt_12 rfl (lv_at hl 0 rfl) ?_
    refine k_get (ci := 3) (v := .ref a0.2.1) (C := RX3) (T := TX3) (N := 3) hx hb hts hown hz hw (by decide +kernel) 0 rfl rfl 0 (by decide) (hts (.fieldLink RX3 11 "OccupancyMonitor$History" "ring" "[LOccupancyMonitor$State;") (by decide +kernel)) (fun _ h9 => h9) rfl dX3_stateAt_13 ?_
    refine lv_iload_n hx hb dX3_stateAt_16 rfl (lv_at hl 1 rfl) ?_
    refine k_aldq hx hb hz hw 1 rfl (by unfold vp_in; decide) dX3_stateAt_17 ?_
    refine W.eq (g2 := F0 m 18 ls [.ref a0.2.2.1.1]) rfl ?_
    refine lv_goto (tgt := 22) hx hb dX3_stateAt_18 (by decide) ?_
    have hw : ww A s.heap D [w3 cA cR a0 v0] H locs := hw
    subst hQ
    exact k_aret hx hb hr hlk (Or.inl ⟨_, rfl⟩) (Or.inr ⟨_, rfl⟩) hw dX3_stateAt_22

noncomputable def sX3_stateAt_1 (v0 : V3) : Option (Unit) := ((sX10_within (1 : Int32) (4 : Int32)).bind (fun o1 => (if o1 = 0 then none else (some ()))))
abbrev rX3_stateAt_1 : Room := { frames := 1, cells := 0, slots := 0, locals := 21 }
set_option maxHeartbeats 4000000 in
set_option maxRecDepth 100000 in
theorem mX3_stateAt_1 (l : Launch) (D : va_G) (cA cR : ClassId) (a0 : A3) (v0 : V3) (o : Unit) (hsp : sX3_stateAt_1 v0 = some o) : MI l yX3_stateAt wsX3_stateAt rX3_stateAt_1 D cA cR [.ref a0.1, .int (1 : Int32)] [w3 cA cR a0 v0] (some (.ref a0.2.2.2.1.1)) [w3 cA cR a0 v0] 0 0 := by
  have hsp : ((sX10_within (1 : Int32) (4 : Int32)).bind (fun o1 => (if o1 = 0 then none else (some ())))) = some o := hsp
  refine MI.ofW (cc := cX3_stateAt) (maxL := 2) (ret := (some (.object "OccupancyMonitor$State"))) (by decide) rfl (Nat.le_of_ble_eq_true rfl) ?_
  intro p e s m args below meth c A ls Q H locs hx hb hr hlk hml hown hnm hts hz hA hQ hw hl
  have hl : lv_has ls 2 [(0, .ref a0.1), (1, .int (1 : Int32))] := hl
  have hw : ww A s.heap D [[(a0.1, .inr (3, [.ref a0.2.1, .int v0.2.2.2.2.1, .int v0.2.2.2.2.2]))], [(a0.2.1, .inl (cR, 4, .inr (.inr (.inr (.inr (rg a0))))))], w8 cA a0.2.2.1 v0.1, w8 cA a0.2.2.2.1 v0.2.1, w8 cA a0.2.2.2.2.1 v0.2.2.1, w8 cA a0.2.2.2.2.2 v0.2.2.2.1] H locs := hw
  refine lv_iload_n hx hb dX3_stateAt_0 rfl (lv_at hl 1 rfl) ?_
  refine lv_aload_n hx hb dX3_stateAt_1 rfl (lv_at hl 0 rfl) ?_
  refine k_get (ci := 3) (v := .ref a0.2.1) (C := RX3) (T := TX3) (N := 3) hx hb hts hown hz hw (by decide +kernel) 0 rfl rfl 0 (by decide) (hts (.fieldLink RX3 11 "OccupancyMonitor$History" "ring" "[LOccupancyMonitor$State;") (by decide +kernel)) (fun _ h9 => h9) rfl dX3_stateAt_2 ?_
  refine k_alenq hx hb hz hw 1 rfl dX3_stateAt_5 ?_
  refine W.eq (g2 := F0 m 6 ls [.int (4 : Int32), .int (1 : Int32)]) rfl ?_
  obtain ⟨o1, hso1, hsp⟩ := bnd_of hsp
  refine k_callSN (nA := 2) (As := [.int (1 : Int32), .int (4 : Int32)]) (host := "OccupancyMonitor") (cs := []) (rs := [[(a0.1, .inr (3, [.ref a0.2.1, .int v0.2.2.2.2.1, .int v0.2.2.2.2.2]))], [(a0.2.1, .inl (cR, 4, .inr (.inr (.inr (.inr (rg a0))))))], w8 cA a0.2.2.1 v0.1, w8 cA a0.2.2.2.1 v0.2.1, w8 cA a0.2.2.2.2.1 v0.2.2.1, w8 cA a0.2.2.2.2.2 v0.2.2.2.1]) (cs1 := []) (bs1 := [[(a0.1, .inr (3, [.ref a0.2.1, .int v0.2.2.2.2.1, .int v0.2.2.2.2.2]))], [(a0.2.1, .inl (cR, 4, .inr (.inr (.inr (.inr (rg a0))))))], w8 cA a0.2.2.1 v0.1, w8 cA a0.2.2.2.1 v0.2.1, w8 cA a0.2.2.2.2.1 v0.2.2.1, w8 cA a0.2.2.2.2.2 v0.2.2.2.1]) (rest := []) (st1 := [.int o1]) ⟨hx, hb, hml, hown, hts⟩ hz hw hA (mX10_within l D cA cR (1 : Int32) (4 : Int32) o1 hso1) gX3_stateAt_X10_within_n39 rfl rfl rfl (by decide +kernel) (by decide +kernel) (by decide +kernel) (by decide +kernel) rfl ⟨Nat.le_of_ble_eq_true rfl, Nat.le_of_ble_eq_true rfl⟩ hl.1 rfl (Nat.le_of_ble_eq_true rfl) dX3_stateAt_6 ⟨Nat.le_of_ble_eq_true rfl, Nat.le_of_ble_eq_true rfl⟩ [] [0, 1, 2, 3, 4, 5] [0, 1, 2, 3, 4, 5] rfl rfl rfl rfl rfl rfl (fun H locs hw => ?_)
  refine lv_if_eq (tgt := 21) hx hb dX3_stateAt_9 (by decide) (fun c2 => ?_) (fun c2 => ?_)
  · have hsp := ift c2 hsp
    cases hsp
  · have hsp := iff_ c2 hsp
    refine lv_aload_n hx hb dX3_stateAt_12 rfl (lv_at hl 0 rfl) ?_
    refine k_get (ci := 3) (v := .ref a0.2.1) (C := RX3) (T := TX3) (N := 3) hx hb hts hown hz hw (by decide +kernel) 0 rfl rfl 0 (by decide) (hts (.fieldLink RX3 11 "OccupancyMonitor$History" "ring" "[LOccupancyMonitor$State;") (by decide +kernel)) (fun _ h9 => h9) rfl dX3_stateAt_13 ?_
    refine lv_iload_n hx hb dX3_stateAt_16 rfl (lv_at hl 1 rfl) ?_
    refine k_aldq hx hb hz hw 1 rfl (by unfold vp_in; decide) dX3_stateAt_17 ?_
    refine W.eq (g2 := F0 m 18 ls [.ref a0.2.2.2.1.1]) rfl ?_
    refine lv_goto (tgt := 22) hx hb dX3_stateAt_18 (by decide) ?_
    have hw : ww A s.heap D [w3 cA cR a0 v0] H locs := hw
    subst hQ
    exact k_aret hx hb hr hlk (Or.inl ⟨_, rfl⟩) (Or.inr ⟨_, rfl⟩) hw dX3_stateAt_22

noncomputable def sX3_stateAt_2 (v0 : V3) : Option (Unit) := ((sX10_within (2 : Int32) (4 : Int32)).bind (fun o1 => (if o1 = 0 then none else (some ()))))
abbrev rX3_stateAt_2 : Room := { frames := 1, cells := 0, slots := 0, locals := 21 }
set_option maxHeartbeats 4000000 in
set_option maxRecDepth 100000 in
theorem mX3_stateAt_2 (l : Launch) (D : va_G) (cA cR : ClassId) (a0 : A3) (v0 : V3) (o : Unit) (hsp : sX3_stateAt_2 v0 = some o) : MI l yX3_stateAt wsX3_stateAt rX3_stateAt_2 D cA cR [.ref a0.1, .int (2 : Int32)] [w3 cA cR a0 v0] (some (.ref a0.2.2.2.2.1.1)) [w3 cA cR a0 v0] 0 0 := by
  have hsp : ((sX10_within (2 : Int32) (4 : Int32)).bind (fun o1 => (if o1 = 0 then none else (some ())))) = some o := hsp
  refine MI.ofW (cc := cX3_stateAt) (maxL := 2) (ret := (some (.object "OccupancyMonitor$State"))) (by decide) rfl (Nat.le_of_ble_eq_true rfl) ?_
  intro p e s m args below meth c A ls Q H locs hx hb hr hlk hml hown hnm hts hz hA hQ hw hl
  have hl : lv_has ls 2 [(0, .ref a0.1), (1, .int (2 : Int32))] := hl
  have hw : ww A s.heap D [[(a0.1, .inr (3, [.ref a0.2.1, .int v0.2.2.2.2.1, .int v0.2.2.2.2.2]))], [(a0.2.1, .inl (cR, 4, .inr (.inr (.inr (.inr (rg a0))))))], w8 cA a0.2.2.1 v0.1, w8 cA a0.2.2.2.1 v0.2.1, w8 cA a0.2.2.2.2.1 v0.2.2.1, w8 cA a0.2.2.2.2.2 v0.2.2.2.1] H locs := hw
  refine lv_iload_n hx hb dX3_stateAt_0 rfl (lv_at hl 1 rfl) ?_
  refine lv_aload_n hx hb dX3_stateAt_1 rfl (lv_at hl 0 rfl) ?_
  refine k_get (ci := 3) (v := .ref a0.2.1) (C := RX3) (T := TX3) (N := 3) hx hb hts hown hz hw (by decide +kernel) 0 rfl rfl 0 (by decide) (hts (.fieldLink RX3 11 "OccupancyMonitor$History" "ring" "[LOccupancyMonitor$State;") (by decide +kernel)) (fun _ h9 => h9) rfl dX3_stateAt_2 ?_
  refine k_alenq hx hb hz hw 1 rfl dX3_stateAt_5 ?_
  refine W.eq (g2 := F0 m 6 ls [.int (4 : Int32), .int (2 : Int32)]) rfl ?_
  obtain ⟨o1, hso1, hsp⟩ := bnd_of hsp
  refine k_callSN (nA := 2) (As := [.int (2 : Int32), .int (4 : Int32)]) (host := "OccupancyMonitor") (cs := []) (rs := [[(a0.1, .inr (3, [.ref a0.2.1, .int v0.2.2.2.2.1, .int v0.2.2.2.2.2]))], [(a0.2.1, .inl (cR, 4, .inr (.inr (.inr (.inr (rg a0))))))], w8 cA a0.2.2.1 v0.1, w8 cA a0.2.2.2.1 v0.2.1, w8 cA a0.2.2.2.2.1 v0.2.2.1, w8 cA a0.2.2.2.2.2 v0.2.2.2.1]) (cs1 := []) (bs1 := [[(a0.1, .inr (3, [.ref a0.2.1, .int v0.2.2.2.2.1, .int v0.2.2.2.2.2]))], [(a0.2.1, .inl (cR, 4, .inr (.inr (.inr (.inr (rg a0))))))], w8 cA a0.2.2.1 v0.1, w8 cA a0.2.2.2.1 v0.2.1, w8 cA a0.2.2.2.2.1 v0.2.2.1, w8 cA a0.2.2.2.2.2 v0.2.2.2.1]) (rest := []) (st1 := [.int o1]) ⟨hx, hb, hml, hown, hts⟩ hz hw hA (mX10_within l D cA cR (2 : Int32) (4 : Int32) o1 hso1) gX3_stateAt_X10_within_n39 rfl rfl rfl (by decide +kernel) (by decide +kernel) (by decide +kernel) (by decide +kernel) rfl ⟨Nat.le_of_ble_eq_true rfl, Nat.le_of_ble_eq_true rfl⟩ hl.1 rfl (Nat.le_of_ble_eq_true rfl) dX3_stateAt_6 ⟨Nat.le_of_ble_eq_true rfl, Nat.le_of_ble_eq_true rfl⟩ [] [0, 1, 2, 3, 4, 5] [0, 1, 2, 3, 4, 5] rfl rfl rfl rfl rfl rfl (fun H locs hw => ?_)
  refine lv_if_eq (tgt := 21) hx hb dX3_stateAt_9 (by decide) (fun c2 => ?_) (fun c2 => ?_)
  · have hsp := ift c2 hsp
    cases hsp
  · have hsp := iff_ c2 hsp
    refine lv_aload_n hx hb dX3_stateAt_12 rfl (lv_at hl 0 rfl) ?_
    refine k_get (ci := 3) (v := .ref a0.2.1) (C := RX3) (T := TX3) (N := 3) hx hb hts hown hz hw (by decide +kernel) 0 rfl rfl 0 (by decide) (hts (.fieldLink RX3 11 "OccupancyMonitor$History" "ring" "[LOccupancyMonitor$State;") (by decide +kernel)) (fun _ h9 => h9) rfl dX3_stateAt_13 ?_
    refine lv_iload_n hx hb dX3_stateAt_16 rfl (lv_at hl 1 rfl) ?_
    refine k_aldq hx hb hz hw 1 rfl (by unfold vp_in; decide) dX3_stateAt_17 ?_
    refine W.eq (g2 := F0 m 18 ls [.ref a0.2.2.2.2.1.1]) rfl ?_
    refine lv_goto (tgt := 22) hx hb dX3_stateAt_18 (by decide) ?_
    have hw : ww A s.heap D [w3 cA cR a0 v0] H locs := hw
    subst hQ
    exact k_aret hx hb hr hlk (Or.inl ⟨_, rfl⟩) (Or.inr ⟨_, rfl⟩) hw dX3_stateAt_22

noncomputable def sX3_stateAt_3 (v0 : V3) : Option (Unit) := ((sX10_within (3 : Int32) (4 : Int32)).bind (fun o1 => (if o1 = 0 then none else (some ()))))
abbrev rX3_stateAt_3 : Room := { frames := 1, cells := 0, slots := 0, locals := 21 }
set_option maxHeartbeats 4000000 in
set_option maxRecDepth 100000 in
theorem mX3_stateAt_3 (l : Launch) (D : va_G) (cA cR : ClassId) (a0 : A3) (v0 : V3) (o : Unit) (hsp : sX3_stateAt_3 v0 = some o) : MI l yX3_stateAt wsX3_stateAt rX3_stateAt_3 D cA cR [.ref a0.1, .int (3 : Int32)] [w3 cA cR a0 v0] (some (.ref a0.2.2.2.2.2.1)) [w3 cA cR a0 v0] 0 0 := by
  have hsp : ((sX10_within (3 : Int32) (4 : Int32)).bind (fun o1 => (if o1 = 0 then none else (some ())))) = some o := hsp
  refine MI.ofW (cc := cX3_stateAt) (maxL := 2) (ret := (some (.object "OccupancyMonitor$State"))) (by decide) rfl (Nat.le_of_ble_eq_true rfl) ?_
  intro p e s m args below meth c A ls Q H locs hx hb hr hlk hml hown hnm hts hz hA hQ hw hl
  have hl : lv_has ls 2 [(0, .ref a0.1), (1, .int (3 : Int32))] := hl
  have hw : ww A s.heap D [[(a0.1, .inr (3, [.ref a0.2.1, .int v0.2.2.2.2.1, .int v0.2.2.2.2.2]))], [(a0.2.1, .inl (cR, 4, .inr (.inr (.inr (.inr (rg a0))))))], w8 cA a0.2.2.1 v0.1, w8 cA a0.2.2.2.1 v0.2.1, w8 cA a0.2.2.2.2.1 v0.2.2.1, w8 cA a0.2.2.2.2.2 v0.2.2.2.1] H locs := hw
  refine lv_iload_n hx hb dX3_stateAt_0 rfl (lv_at hl 1 rfl) ?_
  refine lv_aload_n hx hb dX3_stateAt_1 rfl (lv_at hl 0 rfl) ?_
  refine k_get (ci := 3) (v := .ref a0.2.1) (C := RX3) (T := TX3) (N := 3) hx hb hts hown hz hw (by decide +kernel) 0 rfl rfl 0 (by decide) (hts (.fieldLink RX3 11 "OccupancyMonitor$History" "ring" "[LOccupancyMonitor$State;") (by decide +kernel)) (fun _ h9 => h9) rfl dX3_stateAt_2 ?_
  refine k_alenq hx hb hz hw 1 rfl dX3_stateAt_5 ?_
  refine W.eq (g2 := F0 m 6 ls [.int (4 : Int32), .int (3 : Int32)]) rfl ?_
  obtain ⟨o1, hso1, hsp⟩ := bnd_of hsp
  refine k_callSN (nA := 2) (As := [.int (3 : Int32), .int (4 : Int32)]) (host := "OccupancyMonitor") (cs := []) (rs := [[(a0.1, .inr (3, [.ref a0.2.1, .int v0.2.2.2.2.1, .int v0.2.2.2.2.2]))], [(a0.2.1, .inl (cR, 4, .inr (.inr (.inr (.inr (rg a0))))))], w8 cA a0.2.2.1 v0.1, w8 cA a0.2.2.2.1 v0.2.1, w8 cA a0.2.2.2.2.1 v0.2.2.1, w8 cA a0.2.2.2.2.2 v0.2.2.2.1]) (cs1 := []) (bs1 := [[(a0.1, .inr (3, [.ref a0.2.1, .int v0.2.2.2.2.1, .int v0.2.2.2.2.2]))], [(a0.2.1, .inl (cR, 4, .inr (.inr (.inr (.inr (rg a0))))))], w8 cA a0.2.2.1 v0.1, w8 cA a0.2.2.2.1 v0.2.1, w8 cA a0.2.2.2.2.1 v0.2.2.1, w8 cA a0.2.2.2.2.2 v0.2.2.2.1]) (rest := []) (st1 := [.int o1]) ⟨hx, hb, hml, hown, hts⟩ hz hw hA (mX10_within l D cA cR (3 : Int32) (4 : Int32) o1 hso1) gX3_stateAt_X10_within_n39 rfl rfl rfl (by decide +kernel) (by decide +kernel) (by decide +kernel) (by decide +kernel) rfl ⟨Nat.le_of_ble_eq_true rfl, Nat.le_of_ble_eq_true rfl⟩ hl.1 rfl (Nat.le_of_ble_eq_true rfl) dX3_stateAt_6 ⟨Nat.le_of_ble_eq_true rfl, Nat.le_of_ble_eq_true rfl⟩ [] [0, 1, 2, 3, 4, 5] [0, 1, 2, 3, 4, 5] rfl rfl rfl rfl rfl rfl (fun H locs hw => ?_)
  refine lv_if_eq (tgt := 21) hx hb dX3_stateAt_9 (by decide) (fun c2 => ?_) (fun c2 => ?_)
  · have hsp := ift c2 hsp
    cases hsp
  · have hsp := iff_ c2 hsp
    refine lv_aload_n hx hb dX3_stateAt_12 rfl (lv_at hl 0 rfl) ?_
    refine k_get (ci := 3) (v := .ref a0.2.1) (C := RX3) (T := TX3) (N := 3) hx hb hts hown hz hw (by decide +kernel) 0 rfl rfl 0 (by decide) (hts (.fieldLink RX3 11 "OccupancyMonitor$History" "ring" "[LOccupancyMonitor$State;") (by decide +kernel)) (fun _ h9 => h9) rfl dX3_stateAt_13 ?_
    refine lv_iload_n hx hb dX3_stateAt_16 rfl (lv_at hl 1 rfl) ?_
    refine k_aldq hx hb hz hw 1 rfl (by unfold vp_in; decide) dX3_stateAt_17 ?_
    refine W.eq (g2 := F0 m 18 ls [.ref a0.2.2.2.2.2.1]) rfl ?_
    refine lv_goto (tgt := 22) hx hb dX3_stateAt_18 (by decide) ?_
    have hw : ww A s.heap D [w3 cA cR a0 v0] H locs := hw
    subst hQ
    exact k_aret hx hb hr hlk (Or.inl ⟨_, rfl⟩) (Or.inr ⟨_, rfl⟩) hw dX3_stateAt_22

noncomputable def sX3_save_0 (v0 : V3) (v1 : V8) : Option (V3) := ((sX3_stateAt_0 (v0.1, v0.2.1, v0.2.2.1, v0.2.2.2.1, (0 : Int32), v0.2.2.2.2.2)).bind (fun o1 => ((sX8_copyFrom v0.1 v1).bind (fun o2 => (lt_ (if (4 : Int32) < (v0.2.2.2.2.2 + (1 : Int32)) then (4 : Int32) else (v0.2.2.2.2.2 + (1 : Int32))) (fun x6 => (some (o2, v0.2.1, v0.2.2.1, v0.2.2.2.1, (1 : Int32), x6))))))))
abbrev rX3_save_0 : Room := { frames := 4, cells := 0, slots := 0, locals := 89 }
set_option maxHeartbeats 4000000 in
set_option maxRecDepth 100000 in
theorem mX3_save_0 (l : Launch) (D : va_G) (cA cR : ClassId) (a0 : A3) (v0 : V3) (a1 : A8) (v1 : V8) (o : V3) (hsp : sX3_save_0 v0 v1 = some o) : MI l yX3_save wsX3_save rX3_save_0 D cA cR [.ref a0.1, .ref a1.1] [w3 cA cR a0 (v0.1, v0.2.1, v0.2.2.1, v0.2.2.2.1, (0 : Int32), v0.2.2.2.2.2), w8 cA a1 v1] none [w3 cA cR a0 o, w8 cA a1 v1] 0 0 := by
  have hsp : ((sX3_stateAt_0 (v0.1, v0.2.1, v0.2.2.1, v0.2.2.2.1, (0 : Int32), v0.2.2.2.2.2)).bind (fun o1 => ((sX8_copyFrom v0.1 v1).bind (fun o2 => (lt_ (if (4 : Int32) < (v0.2.2.2.2.2 + (1 : Int32)) then (4 : Int32) else (v0.2.2.2.2.2 + (1 : Int32))) (fun x6 => (some (o2, v0.2.1, v0.2.2.1, v0.2.2.2.1, (1 : Int32), x6)))))))) = some o := hsp
  refine MI.ofW (cc := cX3_save) (maxL := 3) (ret := none) (by decide) rfl (Nat.le_of_ble_eq_true rfl) ?_
  intro p e s m args below meth c A ls Q H locs hx hb hr hlk hml hown hnm hts hz hA hQ hw hl
  have hl : lv_has ls 3 [(0, .ref a0.1), (1, .ref a1.1)] := hl
  have hw : ww A s.heap D [[(a0.1, .inr (3, [.ref a0.2.1, .int (0 : Int32), .int v0.2.2.2.2.2]))], [(a0.2.1, .inl (cR, 4, .inr (.inr (.inr (.inr (rg a0))))))], w8 cA a0.2.2.1 v0.1, w8 cA a0.2.2.2.1 v0.2.1, w8 cA a0.2.2.2.2.1 v0.2.2.1, w8 cA a0.2.2.2.2.2 v0.2.2.2.1, w8 cA a1 v1] H locs := hw
  refine lv_aload_n hx hb dX3_save_0 rfl (lv_at hl 0 rfl) ?_
  refine lv_aload_n hx hb dX3_save_1 rfl (lv_at hl 0 rfl) ?_
  refine k_get (ci := 3) (v := .int (0 : Int32)) (C := RX3) (T := TX3) (N := 3) hx hb hts hown hz hw (by decide +kernel) 0 rfl rfl 1 (by decide) (hts (.fieldLink RX3 18 "OccupancyMonitor$History" "next" "I") (by decide +kernel)) (fun _ h9 => h9) rfl dX3_save_2 ?_
  have hw : ww A s.heap D [w3 cA cR a0 (v0.1, v0.2.1, v0.2.2.1, v0.2.2.2.1, (0 : Int32), v0.2.2.2.2.2), w8 cA a1 v1] H locs := hw
  obtain ⟨o1, hso1, hsp⟩ := bnd_of hsp
  refine k_callV (ci := 3) (C := RX3) (T := TX3) (N := 3) (nA := 1) (As := [.int (0 : Int32)]) (cs := [w3 cA cR a0 (v0.1, v0.2.1, v0.2.2.1, v0.2.2.2.1, (0 : Int32), v0.2.2.2.2.2)]) (rs := [w8 cA a1 v1]) (cs1 := [w3 cA cR a0 (v0.1, v0.2.1, v0.2.2.1, v0.2.2.2.1, (0 : Int32), v0.2.2.2.2.2)]) (bs1 := [w3 cA cR a0 (v0.1, v0.2.1, v0.2.2.1, v0.2.2.2.1, (0 : Int32), v0.2.2.2.2.2), w8 cA a1 v1]) (rest := []) (st1 := [.ref a0.2.2.1.1]) ⟨hx, hb, hml, hown, hts⟩ hz hw hA (mX3_stateAt_0 l D cA cR a0 (v0.1, v0.2.1, v0.2.2.1, v0.2.2.2.1, (0 : Int32), v0.2.2.2.2.2) o1 hso1) gX3_save_X3_stateAt rfl rfl rfl (by decide +kernel) rfl ⟨Nat.le_of_ble_eq_true rfl, Nat.le_of_ble_eq_true rfl⟩ rfl rfl hl.1 rfl (Nat.le_of_ble_eq_true rfl) dX3_save_5 ⟨Nat.le_of_ble_eq_true rfl, Nat.le_of_ble_eq_true rfl⟩ [0] [1] [1, 0] rfl rfl rfl rfl rfl rfl (fun H locs hw => ?_)
  have hw : ww A s.heap D [[(a0.1, .inr (3, [.ref a0.2.1, .int (0 : Int32), .int v0.2.2.2.2.2]))], [(a0.2.1, .inl (cR, 4, .inr (.inr (.inr (.inr (rg a0))))))], w8 cA a0.2.2.1 v0.1, w8 cA a0.2.2.2.1 v0.2.1, w8 cA a0.2.2.2.2.1 v0.2.2.1, w8 cA a0.2.2.2.2.2 v0.2.2.2.1, w8 cA a1 v1] H locs := hw
  refine lv_astore_n (lv' := [(2, .ref a0.2.2.1.1), (0, .ref a0.1), (1, .ref a1.1)]) hx hb dX3_save_8 rfl hl (by decide) rfl (fun ls hl => ?_)
  refine lv_aload_n hx hb dX3_save_9 rfl (lv_at hl 0 rfl) ?_
  refine lv_ifnull hx hb dX3_save_10 ?_
  refine lv_aload_n hx hb dX3_save_13 rfl (lv_at hl 0 rfl) ?_
  refine lv_aload_n hx hb dX3_save_14 rfl (lv_at hl 2 rfl) ?_
  obtain ⟨o2, hso2, hsp⟩ := bnd_of hsp
  refine k_callV (ci := 8) (C := RX8) (T := TX8) (N := 9) (nA := 1) (As := [.ref a1.1]) (cs := [w8 cA a0.2.2.1 v0.1, w8 cA a1 v1]) (rs := [[(a0.1, .inr (3, [.ref a0.2.1, .int (0 : Int32), .int v0.2.2.2.2.2]))], [(a0.2.1, .inl (cR, 4, .inr (.inr (.inr (.inr (rg a0))))))], w8 cA a0.2.2.2.1 v0.2.1, w8 cA a0.2.2.2.2.1 v0.2.2.1, w8 cA a0.2.2.2.2.2 v0.2.2.2.1]) (cs1 := [w8 cA a0.2.2.1 o2, w8 cA a1 v1]) (bs1 := [[(a0.1, .inr (3, [.ref a0.2.1, .int (0 : Int32), .int v0.2.2.2.2.2]))], [(a0.2.1, .inl (cR, 4, .inr (.inr (.inr (.inr (rg a0))))))], w8 cA a0.2.2.1 o2, w8 cA a0.2.2.2.1 v0.2.1, w8 cA a0.2.2.2.2.1 v0.2.2.1, w8 cA a0.2.2.2.2.2 v0.2.2.2.1, w8 cA a1 v1]) (rest := []) (st1 := []) ⟨hx, hb, hml, hown, hts⟩ hz hw hA (mX8_copyFrom l D cA cR a0.2.2.1 v0.1 a1 v1 o2 hso2) gX3_save_X8_copyFrom rfl rfl rfl (by decide +kernel) rfl ⟨Nat.le_of_ble_eq_true rfl, Nat.le_of_ble_eq_true rfl⟩ rfl rfl hl.1 rfl (Nat.le_of_ble_eq_true rfl) dX3_save_15 ⟨Nat.le_of_ble_eq_true rfl, Nat.le_of_ble_eq_true rfl⟩ [2, 6] [0, 1, 3, 4, 5] [0, 1, 5, 2, 3, 4, 6] rfl rfl rfl rfl rfl rfl (fun H locs hw => ?_)
  refine lv_aload_n hx hb dX3_save_18 rfl (lv_at hl 1 rfl) ?_
  refine lv_aload_n hx hb dX3_save_19 rfl (lv_at hl 1 rfl) ?_
  refine k_get (ci := 3) (v := .int (0 : Int32)) (C := RX3) (T := TX3) (N := 3) hx hb hts hown hz hw (by decide +kernel) 0 rfl rfl 1 (by decide) (hts (.fieldLink RX3 18 "OccupancyMonitor$History" "next" "I") (by decide +kernel)) (fun _ h9 => h9) rfl dX3_save_20 ?_
  refine lv_iconst (v := 1) hx hb dX3_save_23 (by decide) ?_
  refine lv_iadd hx hb dX3_save_24 ?_
  refine lv_topi (fun x3 ex3 => ?_)
  obtain rfl : x3 = (1 : Int32) := ex3.trans (by decide)
  refine lv_aload_n hx hb dX3_save_25 rfl (lv_at hl 1 rfl) ?_
  refine k_get (ci := 3) (v := .ref a0.2.1) (C := RX3) (T := TX3) (N := 3) hx hb hts hown hz hw (by decide +kernel) 0 rfl rfl 0 (by decide) (hts (.fieldLink RX3 11 "OccupancyMonitor$History" "ring" "[LOccupancyMonitor$State;") (by decide +kernel)) (fun _ h9 => h9) rfl dX3_save_26 ?_
  refine k_alenq hx hb hz hw 1 rfl dX3_save_29 ?_
  refine W.eq (g2 := F0 m 30 ls [.int (4 : Int32), .int (1 : Int32), .ref a0.1]) rfl ?_
  refine lv_icmp_ge (tgt := 42) hx hb dX3_save_30 (by decide) (fun c4 => absurd c4 (by decide)) (fun _ => ?_)
  refine lv_aload_n hx hb dX3_save_33 rfl (lv_at hl 1 rfl) ?_
  refine k_get (ci := 3) (v := .int (0 : Int32)) (C := RX3) (T := TX3) (N := 3) hx hb hts hown hz hw (by decide +kernel) 0 rfl rfl 1 (by decide) (hts (.fieldLink RX3 18 "OccupancyMonitor$History" "next" "I") (by decide +kernel)) (fun _ h9 => h9) rfl dX3_save_34 ?_
  refine lv_iconst (v := 1) hx hb dX3_save_37 (by decide) ?_
  refine lv_iadd hx hb dX3_save_38 ?_
  refine lv_topi (fun x5 ex5 => ?_)
  obtain rfl : x5 = (1 : Int32) := ex5.trans (by decide)
  refine lv_goto (tgt := 43) hx hb dX3_save_39 (by decide) ?_
  refine k_put (ci := 3) (v := .int (1 : Int32)) (ty := .int) (C := RX3) (T := TX3) (N := 3) (bs1 := [[(a0.1, .inr (3, [.ref a0.2.1, .int (1 : Int32), .int v0.2.2.2.2.2]))], [(a0.2.1, .inl (cR, 4, .inr (.inr (.inr (.inr (rg a0))))))], w8 cA a0.2.2.1 o2, w8 cA a0.2.2.2.1 v0.2.1, w8 cA a0.2.2.2.2.1 v0.2.2.1, w8 cA a0.2.2.2.2.2 v0.2.2.2.1, w8 cA a1 v1]) hx hb hts hown hz hw (by decide +kernel) tyX3 tyX3_ok nmX3 0 rfl rfl 1 (by decide) (hts (.fieldLink RX3 18 "OccupancyMonitor$History" "next" "I") (by decide +kernel)) (fun _ h9 => h9) rfl (by decide +kernel) rfl rfl (Nat.le_of_ble_eq_true rfl) dX3_save_43 rfl (fun H locs hw => ?_)
  refine lv_aload_n hx hb dX3_save_46 rfl (lv_at hl 1 rfl) ?_
  refine lv_aload_n hx hb dX3_save_47 rfl (lv_at hl 1 rfl) ?_
  refine k_get (ci := 3) (v := .int v0.2.2.2.2.2) (C := RX3) (T := TX3) (N := 3) hx hb hts hown hz hw (by decide +kernel) 0 rfl rfl 2 (by decide) (hts (.fieldLink RX3 30 "OccupancyMonitor$History" "count" "I") (by decide +kernel)) (fun _ h9 => h9) rfl dX3_save_48 ?_
  refine lv_iconst (v := 1) hx hb dX3_save_51 (by decide) ?_
  refine lv_iadd hx hb dX3_save_52 ?_
  refine lv_aload_n hx hb dX3_save_53 rfl (lv_at hl 1 rfl) ?_
  refine k_get (ci := 3) (v := .ref a0.2.1) (C := RX3) (T := TX3) (N := 3) hx hb hts hown hz hw (by decide +kernel) 0 rfl rfl 0 (by decide) (hts (.fieldLink RX3 11 "OccupancyMonitor$History" "ring" "[LOccupancyMonitor$State;") (by decide +kernel)) (fun _ h9 => h9) rfl dX3_save_54 ?_
  refine k_alenq hx hb hz hw 1 rfl dX3_save_57 ?_
  refine W.eq (g2 := F0 m 58 ls [.int (4 : Int32), .int (v0.2.2.2.2.2 + (1 : Int32)), .ref a0.1]) rfl ?_
  refine va_mmin hx hb (by rw [hml]; exact hl.1.symm) hown (hts (.methodLink RX3 33 Lib.Math.min.name) (by decide +kernel)) (hts (.static Lib.Math.min.name) (by decide +kernel)) (hts (.initialized "java/lang/Math") (by decide +kernel)) (hts (.code Lib.Math.min.name Lib.Math.min.code 2 (some .int)) (by decide +kernel)) (Nat.le_of_ble_eq_true rfl) (Nat.le_of_ble_eq_true rfl) (Nat.le_of_ble_eq_true rfl) (Nat.le_of_ble_eq_true rfl) dX3_save_58 ?_
  refine lv_topi (fun x6 ex6 => ?_)
  have hsp := lt_of hsp ex6
  refine k_put (ci := 3) (v := .int x6) (ty := .int) (C := RX3) (T := TX3) (N := 3) (bs1 := [[(a0.1, .inr (3, [.ref a0.2.1, .int (1 : Int32), .int x6]))], [(a0.2.1, .inl (cR, 4, .inr (.inr (.inr (.inr (rg a0))))))], w8 cA a0.2.2.1 o2, w8 cA a0.2.2.2.1 v0.2.1, w8 cA a0.2.2.2.2.1 v0.2.2.1, w8 cA a0.2.2.2.2.2 v0.2.2.2.1, w8 cA a1 v1]) hx hb hts hown hz hw (by decide +kernel) tyX3 tyX3_ok nmX3 0 rfl rfl 2 (by decide) (hts (.fieldLink RX3 30 "OccupancyMonitor$History" "count" "I") (by decide +kernel)) (fun _ h9 => h9) rfl (by decide +kernel) rfl rfl (Nat.le_of_ble_eq_true rfl) dX3_save_61 rfl (fun H locs hw => ?_)
  have hsp := Option.some.inj hsp
  subst hsp
  have hw : ww A s.heap D [w3 cA cR a0 (o2, v0.2.1, v0.2.2.1, v0.2.2.2.1, (1 : Int32), x6), w8 cA a1 v1] H locs := hw
  subst hQ
  exact k_vret hx hb hr hlk hw dX3_save_64

noncomputable def sX3_save_1 (v0 : V3) (v1 : V8) : Option (V3) := ((sX3_stateAt_1 (v0.1, v0.2.1, v0.2.2.1, v0.2.2.2.1, (1 : Int32), v0.2.2.2.2.2)).bind (fun o1 => ((sX8_copyFrom v0.2.1 v1).bind (fun o2 => (lt_ (if (4 : Int32) < (v0.2.2.2.2.2 + (1 : Int32)) then (4 : Int32) else (v0.2.2.2.2.2 + (1 : Int32))) (fun x6 => (some (v0.1, o2, v0.2.2.1, v0.2.2.2.1, (2 : Int32), x6))))))))
abbrev rX3_save_1 : Room := { frames := 4, cells := 0, slots := 0, locals := 89 }
set_option maxHeartbeats 4000000 in
set_option maxRecDepth 100000 in
theorem mX3_save_1 (l : Launch) (D : va_G) (cA cR : ClassId) (a0 : A3) (v0 : V3) (a1 : A8) (v1 : V8) (o : V3) (hsp : sX3_save_1 v0 v1 = some o) : MI l yX3_save wsX3_save rX3_save_1 D cA cR [.ref a0.1, .ref a1.1] [w3 cA cR a0 (v0.1, v0.2.1, v0.2.2.1, v0.2.2.2.1, (1 : Int32), v0.2.2.2.2.2), w8 cA a1 v1] none [w3 cA cR a0 o, w8 cA a1 v1] 0 0 := by
  have hsp : ((sX3_stateAt_1 (v0.1, v0.2.1, v0.2.2.1, v0.2.2.2.1, (1 : Int32), v0.2.2.2.2.2)).bind (fun o1 => ((sX8_copyFrom v0.2.1 v1).bind (fun o2 => (lt_ (if (4 : Int32) < (v0.2.2.2.2.2 + (1 : Int32)) then (4 : Int32) else (v0.2.2.2.2.2 + (1 : Int32))) (fun x6 => (some (v0.1, o2, v0.2.2.1, v0.2.2.2.1, (2 : Int32), x6)))))))) = some o := hsp
  refine MI.ofW (cc := cX3_save) (maxL := 3) (ret := none) (by decide) rfl (Nat.le_of_ble_eq_true rfl) ?_
  intro p e s m args below meth c A ls Q H locs hx hb hr hlk hml hown hnm hts hz hA hQ hw hl
  have hl : lv_has ls 3 [(0, .ref a0.1), (1, .ref a1.1)] := hl
  have hw : ww A s.heap D [[(a0.1, .inr (3, [.ref a0.2.1, .int (1 : Int32), .int v0.2.2.2.2.2]))], [(a0.2.1, .inl (cR, 4, .inr (.inr (.inr (.inr (rg a0))))))], w8 cA a0.2.2.1 v0.1, w8 cA a0.2.2.2.1 v0.2.1, w8 cA a0.2.2.2.2.1 v0.2.2.1, w8 cA a0.2.2.2.2.2 v0.2.2.2.1, w8 cA a1 v1] H locs := hw
  refine lv_aload_n hx hb dX3_save_0 rfl (lv_at hl 0 rfl) ?_
  refine lv_aload_n hx hb dX3_save_1 rfl (lv_at hl 0 rfl) ?_
  refine k_get (ci := 3) (v := .int (1 : Int32)) (C := RX3) (T := TX3) (N := 3) hx hb hts hown hz hw (by decide +kernel) 0 rfl rfl 1 (by decide) (hts (.fieldLink RX3 18 "OccupancyMonitor$History" "next" "I") (by decide +kernel)) (fun _ h9 => h9) rfl dX3_save_2 ?_
  have hw : ww A s.heap D [w3 cA cR a0 (v0.1, v0.2.1, v0.2.2.1, v0.2.2.2.1, (1 : Int32), v0.2.2.2.2.2), w8 cA a1 v1] H locs := hw
  obtain ⟨o1, hso1, hsp⟩ := bnd_of hsp
  refine k_callV (ci := 3) (C := RX3) (T := TX3) (N := 3) (nA := 1) (As := [.int (1 : Int32)]) (cs := [w3 cA cR a0 (v0.1, v0.2.1, v0.2.2.1, v0.2.2.2.1, (1 : Int32), v0.2.2.2.2.2)]) (rs := [w8 cA a1 v1]) (cs1 := [w3 cA cR a0 (v0.1, v0.2.1, v0.2.2.1, v0.2.2.2.1, (1 : Int32), v0.2.2.2.2.2)]) (bs1 := [w3 cA cR a0 (v0.1, v0.2.1, v0.2.2.1, v0.2.2.2.1, (1 : Int32), v0.2.2.2.2.2), w8 cA a1 v1]) (rest := []) (st1 := [.ref a0.2.2.2.1.1]) ⟨hx, hb, hml, hown, hts⟩ hz hw hA (mX3_stateAt_1 l D cA cR a0 (v0.1, v0.2.1, v0.2.2.1, v0.2.2.2.1, (1 : Int32), v0.2.2.2.2.2) o1 hso1) gX3_save_X3_stateAt rfl rfl rfl (by decide +kernel) rfl ⟨Nat.le_of_ble_eq_true rfl, Nat.le_of_ble_eq_true rfl⟩ rfl rfl hl.1 rfl (Nat.le_of_ble_eq_true rfl) dX3_save_5 ⟨Nat.le_of_ble_eq_true rfl, Nat.le_of_ble_eq_true rfl⟩ [0] [1] [1, 0] rfl rfl rfl rfl rfl rfl (fun H locs hw => ?_)
  have hw : ww A s.heap D [[(a0.1, .inr (3, [.ref a0.2.1, .int (1 : Int32), .int v0.2.2.2.2.2]))], [(a0.2.1, .inl (cR, 4, .inr (.inr (.inr (.inr (rg a0))))))], w8 cA a0.2.2.1 v0.1, w8 cA a0.2.2.2.1 v0.2.1, w8 cA a0.2.2.2.2.1 v0.2.2.1, w8 cA a0.2.2.2.2.2 v0.2.2.2.1, w8 cA a1 v1] H locs := hw
  refine lv_astore_n (lv' := [(2, .ref a0.2.2.2.1.1), (0, .ref a0.1), (1, .ref a1.1)]) hx hb dX3_save_8 rfl hl (by decide) rfl (fun ls hl => ?_)
  refine lv_aload_n hx hb dX3_save_9 rfl (lv_at hl 0 rfl) ?_
  refine lv_ifnull hx hb dX3_save_10 ?_
  refine lv_aload_n hx hb dX3_save_13 rfl (lv_at hl 0 rfl) ?_
  refine lv_aload_n hx hb dX3_save_14 rfl (lv_at hl 2 rfl) ?_
  obtain ⟨o2, hso2, hsp⟩ := bnd_of hsp
  refine k_callV (ci := 8) (C := RX8) (T := TX8) (N := 9) (nA := 1) (As := [.ref a1.1]) (cs := [w8 cA a0.2.2.2.1 v0.2.1, w8 cA a1 v1]) (rs := [[(a0.1, .inr (3, [.ref a0.2.1, .int (1 : Int32), .int v0.2.2.2.2.2]))], [(a0.2.1, .inl (cR, 4, .inr (.inr (.inr (.inr (rg a0))))))], w8 cA a0.2.2.1 v0.1, w8 cA a0.2.2.2.2.1 v0.2.2.1, w8 cA a0.2.2.2.2.2 v0.2.2.2.1]) (cs1 := [w8 cA a0.2.2.2.1 o2, w8 cA a1 v1]) (bs1 := [[(a0.1, .inr (3, [.ref a0.2.1, .int (1 : Int32), .int v0.2.2.2.2.2]))], [(a0.2.1, .inl (cR, 4, .inr (.inr (.inr (.inr (rg a0))))))], w8 cA a0.2.2.1 v0.1, w8 cA a0.2.2.2.1 o2, w8 cA a0.2.2.2.2.1 v0.2.2.1, w8 cA a0.2.2.2.2.2 v0.2.2.2.1, w8 cA a1 v1]) (rest := []) (st1 := []) ⟨hx, hb, hml, hown, hts⟩ hz hw hA (mX8_copyFrom l D cA cR a0.2.2.2.1 v0.2.1 a1 v1 o2 hso2) gX3_save_X8_copyFrom rfl rfl rfl (by decide +kernel) rfl ⟨Nat.le_of_ble_eq_true rfl, Nat.le_of_ble_eq_true rfl⟩ rfl rfl hl.1 rfl (Nat.le_of_ble_eq_true rfl) dX3_save_15 ⟨Nat.le_of_ble_eq_true rfl, Nat.le_of_ble_eq_true rfl⟩ [3, 6] [0, 1, 2, 4, 5] [0, 1, 2, 5, 3, 4, 6] rfl rfl rfl rfl rfl rfl (fun H locs hw => ?_)
  refine lv_aload_n hx hb dX3_save_18 rfl (lv_at hl 1 rfl) ?_
  refine lv_aload_n hx hb dX3_save_19 rfl (lv_at hl 1 rfl) ?_
  refine k_get (ci := 3) (v := .int (1 : Int32)) (C := RX3) (T := TX3) (N := 3) hx hb hts hown hz hw (by decide +kernel) 0 rfl rfl 1 (by decide) (hts (.fieldLink RX3 18 "OccupancyMonitor$History" "next" "I") (by decide +kernel)) (fun _ h9 => h9) rfl dX3_save_20 ?_
  refine lv_iconst (v := 1) hx hb dX3_save_23 (by decide) ?_
  refine lv_iadd hx hb dX3_save_24 ?_
  refine lv_topi (fun x3 ex3 => ?_)
  obtain rfl : x3 = (2 : Int32) := ex3.trans (by decide)
  refine lv_aload_n hx hb dX3_save_25 rfl (lv_at hl 1 rfl) ?_
  refine k_get (ci := 3) (v := .ref a0.2.1) (C := RX3) (T := TX3) (N := 3) hx hb hts hown hz hw (by decide +kernel) 0 rfl rfl 0 (by decide) (hts (.fieldLink RX3 11 "OccupancyMonitor$History" "ring" "[LOccupancyMonitor$State;") (by decide +kernel)) (fun _ h9 => h9) rfl dX3_save_26 ?_
  refine k_alenq hx hb hz hw 1 rfl dX3_save_29 ?_
  refine W.eq (g2 := F0 m 30 ls [.int (4 : Int32), .int (2 : Int32), .ref a0.1]) rfl ?_
  refine lv_icmp_ge (tgt := 42) hx hb dX3_save_30 (by decide) (fun c4 => absurd c4 (by decide)) (fun _ => ?_)
  refine lv_aload_n hx hb dX3_save_33 rfl (lv_at hl 1 rfl) ?_
  refine k_get (ci := 3) (v := .int (1 : Int32)) (C := RX3) (T := TX3) (N := 3) hx hb hts hown hz hw (by decide +kernel) 0 rfl rfl 1 (by decide) (hts (.fieldLink RX3 18 "OccupancyMonitor$History" "next" "I") (by decide +kernel)) (fun _ h9 => h9) rfl dX3_save_34 ?_
  refine lv_iconst (v := 1) hx hb dX3_save_37 (by decide) ?_
  refine lv_iadd hx hb dX3_save_38 ?_
  refine lv_topi (fun x5 ex5 => ?_)
  obtain rfl : x5 = (2 : Int32) := ex5.trans (by decide)
  refine lv_goto (tgt := 43) hx hb dX3_save_39 (by decide) ?_
  refine k_put (ci := 3) (v := .int (2 : Int32)) (ty := .int) (C := RX3) (T := TX3) (N := 3) (bs1 := [[(a0.1, .inr (3, [.ref a0.2.1, .int (2 : Int32), .int v0.2.2.2.2.2]))], [(a0.2.1, .inl (cR, 4, .inr (.inr (.inr (.inr (rg a0))))))], w8 cA a0.2.2.1 v0.1, w8 cA a0.2.2.2.1 o2, w8 cA a0.2.2.2.2.1 v0.2.2.1, w8 cA a0.2.2.2.2.2 v0.2.2.2.1, w8 cA a1 v1]) hx hb hts hown hz hw (by decide +kernel) tyX3 tyX3_ok nmX3 0 rfl rfl 1 (by decide) (hts (.fieldLink RX3 18 "OccupancyMonitor$History" "next" "I") (by decide +kernel)) (fun _ h9 => h9) rfl (by decide +kernel) rfl rfl (Nat.le_of_ble_eq_true rfl) dX3_save_43 rfl (fun H locs hw => ?_)
  refine lv_aload_n hx hb dX3_save_46 rfl (lv_at hl 1 rfl) ?_
  refine lv_aload_n hx hb dX3_save_47 rfl (lv_at hl 1 rfl) ?_
  refine k_get (ci := 3) (v := .int v0.2.2.2.2.2) (C := RX3) (T := TX3) (N := 3) hx hb hts hown hz hw (by decide +kernel) 0 rfl rfl 2 (by decide) (hts (.fieldLink RX3 30 "OccupancyMonitor$History" "count" "I") (by decide +kernel)) (fun _ h9 => h9) rfl dX3_save_48 ?_
  refine lv_iconst (v := 1) hx hb dX3_save_51 (by decide) ?_
  refine lv_iadd hx hb dX3_save_52 ?_
  refine lv_aload_n hx hb dX3_save_53 rfl (lv_at hl 1 rfl) ?_
  refine k_get (ci := 3) (v := .ref a0.2.1) (C := RX3) (T := TX3) (N := 3) hx hb hts hown hz hw (by decide +kernel) 0 rfl rfl 0 (by decide) (hts (.fieldLink RX3 11 "OccupancyMonitor$History" "ring" "[LOccupancyMonitor$State;") (by decide +kernel)) (fun _ h9 => h9) rfl dX3_save_54 ?_
  refine k_alenq hx hb hz hw 1 rfl dX3_save_57 ?_
  refine W.eq (g2 := F0 m 58 ls [.int (4 : Int32), .int (v0.2.2.2.2.2 + (1 : Int32)), .ref a0.1]) rfl ?_
  refine va_mmin hx hb (by rw [hml]; exact hl.1.symm) hown (hts (.methodLink RX3 33 Lib.Math.min.name) (by decide +kernel)) (hts (.static Lib.Math.min.name) (by decide +kernel)) (hts (.initialized "java/lang/Math") (by decide +kernel)) (hts (.code Lib.Math.min.name Lib.Math.min.code 2 (some .int)) (by decide +kernel)) (Nat.le_of_ble_eq_true rfl) (Nat.le_of_ble_eq_true rfl) (Nat.le_of_ble_eq_true rfl) (Nat.le_of_ble_eq_true rfl) dX3_save_58 ?_
  refine lv_topi (fun x6 ex6 => ?_)
  have hsp := lt_of hsp ex6
  refine k_put (ci := 3) (v := .int x6) (ty := .int) (C := RX3) (T := TX3) (N := 3) (bs1 := [[(a0.1, .inr (3, [.ref a0.2.1, .int (2 : Int32), .int x6]))], [(a0.2.1, .inl (cR, 4, .inr (.inr (.inr (.inr (rg a0))))))], w8 cA a0.2.2.1 v0.1, w8 cA a0.2.2.2.1 o2, w8 cA a0.2.2.2.2.1 v0.2.2.1, w8 cA a0.2.2.2.2.2 v0.2.2.2.1, w8 cA a1 v1]) hx hb hts hown hz hw (by decide +kernel) tyX3 tyX3_ok nmX3 0 rfl rfl 2 (by decide) (hts (.fieldLink RX3 30 "OccupancyMonitor$History" "count" "I") (by decide +kernel)) (fun _ h9 => h9) rfl (by decide +kernel) rfl rfl (Nat.le_of_ble_eq_true rfl) dX3_save_61 rfl (fun H locs hw => ?_)
  have hsp := Option.some.inj hsp
  subst hsp
  have hw : ww A s.heap D [w3 cA cR a0 (v0.1, o2, v0.2.2.1, v0.2.2.2.1, (2 : Int32), x6), w8 cA a1 v1] H locs := hw
  subst hQ
  exact k_vret hx hb hr hlk hw dX3_save_64

noncomputable def sX3_save_2 (v0 : V3) (v1 : V8) : Option (V3) := ((sX3_stateAt_2 (v0.1, v0.2.1, v0.2.2.1, v0.2.2.2.1, (2 : Int32), v0.2.2.2.2.2)).bind (fun o1 => ((sX8_copyFrom v0.2.2.1 v1).bind (fun o2 => (lt_ (if (4 : Int32) < (v0.2.2.2.2.2 + (1 : Int32)) then (4 : Int32) else (v0.2.2.2.2.2 + (1 : Int32))) (fun x6 => (some (v0.1, v0.2.1, o2, v0.2.2.2.1, (3 : Int32), x6))))))))
abbrev rX3_save_2 : Room := { frames := 4, cells := 0, slots := 0, locals := 89 }
set_option maxHeartbeats 4000000 in
set_option maxRecDepth 100000 in
theorem mX3_save_2 (l : Launch) (D : va_G) (cA cR : ClassId) (a0 : A3) (v0 : V3) (a1 : A8) (v1 : V8) (o : V3) (hsp : sX3_save_2 v0 v1 = some o) : MI l yX3_save wsX3_save rX3_save_2 D cA cR [.ref a0.1, .ref a1.1] [w3 cA cR a0 (v0.1, v0.2.1, v0.2.2.1, v0.2.2.2.1, (2 : Int32), v0.2.2.2.2.2), w8 cA a1 v1] none [w3 cA cR a0 o, w8 cA a1 v1] 0 0 := by
  have hsp : ((sX3_stateAt_2 (v0.1, v0.2.1, v0.2.2.1, v0.2.2.2.1, (2 : Int32), v0.2.2.2.2.2)).bind (fun o1 => ((sX8_copyFrom v0.2.2.1 v1).bind (fun o2 => (lt_ (if (4 : Int32) < (v0.2.2.2.2.2 + (1 : Int32)) then (4 : Int32) else (v0.2.2.2.2.2 + (1 : Int32))) (fun x6 => (some (v0.1, v0.2.1, o2, v0.2.2.2.1, (3 : Int32), x6)))))))) = some o := hsp
  refine MI.ofW (cc := cX3_save) (maxL := 3) (ret := none) (by decide) rfl (Nat.le_of_ble_eq_true rfl) ?_
  intro p e s m args below meth c A ls Q H locs hx hb hr hlk hml hown hnm hts hz hA hQ hw hl
  have hl : lv_has ls 3 [(0, .ref a0.1), (1, .ref a1.1)] := hl
  have hw : ww A s.heap D [[(a0.1, .inr (3, [.ref a0.2.1, .int (2 : Int32), .int v0.2.2.2.2.2]))], [(a0.2.1, .inl (cR, 4, .inr (.inr (.inr (.inr (rg a0))))))], w8 cA a0.2.2.1 v0.1, w8 cA a0.2.2.2.1 v0.2.1, w8 cA a0.2.2.2.2.1 v0.2.2.1, w8 cA a0.2.2.2.2.2 v0.2.2.2.1, w8 cA a1 v1] H locs := hw
  refine lv_aload_n hx hb dX3_save_0 rfl (lv_at hl 0 rfl) ?_
  refine lv_aload_n hx hb dX3_save_1 rfl (lv_at hl 0 rfl) ?_
  refine k_get (ci := 3) (v := .int (2 : Int32)) (C := RX3) (T := TX3) (N := 3) hx hb hts hown hz hw (by decide +kernel) 0 rfl rfl 1 (by decide) (hts (.fieldLink RX3 18 "OccupancyMonitor$History" "next" "I") (by decide +kernel)) (fun _ h9 => h9) rfl dX3_save_2 ?_
  have hw : ww A s.heap D [w3 cA cR a0 (v0.1, v0.2.1, v0.2.2.1, v0.2.2.2.1, (2 : Int32), v0.2.2.2.2.2), w8 cA a1 v1] H locs := hw
  obtain ⟨o1, hso1, hsp⟩ := bnd_of hsp
  refine k_callV (ci := 3) (C := RX3) (T := TX3) (N := 3) (nA := 1) (As := [.int (2 : Int32)]) (cs := [w3 cA cR a0 (v0.1, v0.2.1, v0.2.2.1, v0.2.2.2.1, (2 : Int32), v0.2.2.2.2.2)]) (rs := [w8 cA a1 v1]) (cs1 := [w3 cA cR a0 (v0.1, v0.2.1, v0.2.2.1, v0.2.2.2.1, (2 : Int32), v0.2.2.2.2.2)]) (bs1 := [w3 cA cR a0 (v0.1, v0.2.1, v0.2.2.1, v0.2.2.2.1, (2 : Int32), v0.2.2.2.2.2), w8 cA a1 v1]) (rest := []) (st1 := [.ref a0.2.2.2.2.1.1]) ⟨hx, hb, hml, hown, hts⟩ hz hw hA (mX3_stateAt_2 l D cA cR a0 (v0.1, v0.2.1, v0.2.2.1, v0.2.2.2.1, (2 : Int32), v0.2.2.2.2.2) o1 hso1) gX3_save_X3_stateAt rfl rfl rfl (by decide +kernel) rfl ⟨Nat.le_of_ble_eq_true rfl, Nat.le_of_ble_eq_true rfl⟩ rfl rfl hl.1 rfl (Nat.le_of_ble_eq_true rfl) dX3_save_5 ⟨Nat.le_of_ble_eq_true rfl, Nat.le_of_ble_eq_true rfl⟩ [0] [1] [1, 0] rfl rfl rfl rfl rfl rfl (fun H locs hw => ?_)
  have hw : ww A s.heap D [[(a0.1, .inr (3, [.ref a0.2.1, .int (2 : Int32), .int v0.2.2.2.2.2]))], [(a0.2.1, .inl (cR, 4, .inr (.inr (.inr (.inr (rg a0))))))], w8 cA a0.2.2.1 v0.1, w8 cA a0.2.2.2.1 v0.2.1, w8 cA a0.2.2.2.2.1 v0.2.2.1, w8 cA a0.2.2.2.2.2 v0.2.2.2.1, w8 cA a1 v1] H locs := hw
  refine lv_astore_n (lv' := [(2, .ref a0.2.2.2.2.1.1), (0, .ref a0.1), (1, .ref a1.1)]) hx hb dX3_save_8 rfl hl (by decide) rfl (fun ls hl => ?_)
  refine lv_aload_n hx hb dX3_save_9 rfl (lv_at hl 0 rfl) ?_
  refine lv_ifnull hx hb dX3_save_10 ?_
  refine lv_aload_n hx hb dX3_save_13 rfl (lv_at hl 0 rfl) ?_
  refine lv_aload_n hx hb dX3_save_14 rfl (lv_at hl 2 rfl) ?_
  obtain ⟨o2, hso2, hsp⟩ := bnd_of hsp
  refine k_callV (ci := 8) (C := RX8) (T := TX8) (N := 9) (nA := 1) (As := [.ref a1.1]) (cs := [w8 cA a0.2.2.2.2.1 v0.2.2.1, w8 cA a1 v1]) (rs := [[(a0.1, .inr (3, [.ref a0.2.1, .int (2 : Int32), .int v0.2.2.2.2.2]))], [(a0.2.1, .inl (cR, 4, .inr (.inr (.inr (.inr (rg a0))))))], w8 cA a0.2.2.1 v0.1, w8 cA a0.2.2.2.1 v0.2.1, w8 cA a0.2.2.2.2.2 v0.2.2.2.1]) (cs1 := [w8 cA a0.2.2.2.2.1 o2, w8 cA a1 v1]) (bs1 := [[(a0.1, .inr (3, [.ref a0.2.1, .int (2 : Int32), .int v0.2.2.2.2.2]))], [(a0.2.1, .inl (cR, 4, .inr (.inr (.inr (.inr (rg a0))))))], w8 cA a0.2.2.1 v0.1, w8 cA a0.2.2.2.1 v0.2.1, w8 cA a0.2.2.2.2.1 o2, w8 cA a0.2.2.2.2.2 v0.2.2.2.1, w8 cA a1 v1]) (rest := []) (st1 := []) ⟨hx, hb, hml, hown, hts⟩ hz hw hA (mX8_copyFrom l D cA cR a0.2.2.2.2.1 v0.2.2.1 a1 v1 o2 hso2) gX3_save_X8_copyFrom rfl rfl rfl (by decide +kernel) rfl ⟨Nat.le_of_ble_eq_true rfl, Nat.le_of_ble_eq_true rfl⟩ rfl rfl hl.1 rfl (Nat.le_of_ble_eq_true rfl) dX3_save_15 ⟨Nat.le_of_ble_eq_true rfl, Nat.le_of_ble_eq_true rfl⟩ [4, 6] [0, 1, 2, 3, 5] [0, 1, 2, 3, 5, 4, 6] rfl rfl rfl rfl rfl rfl (fun H locs hw => ?_)
  refine lv_aload_n hx hb dX3_save_18 rfl (lv_at hl 1 rfl) ?_
  refine lv_aload_n hx hb dX3_save_19 rfl (lv_at hl 1 rfl) ?_
  refine k_get (ci := 3) (v := .int (2 : Int32)) (C := RX3) (T := TX3) (N := 3) hx hb hts hown hz hw (by decide +kernel) 0 rfl rfl 1 (by decide) (hts (.fieldLink RX3 18 "OccupancyMonitor$History" "next" "I") (by decide +kernel)) (fun _ h9 => h9) rfl dX3_save_20 ?_
  refine lv_iconst (v := 1) hx hb dX3_save_23 (by decide) ?_
  refine lv_iadd hx hb dX3_save_24 ?_
  refine lv_topi (fun x3 ex3 => ?_)
  obtain rfl : x3 = (3 : Int32) := ex3.trans (by decide)
  refine lv_aload_n hx hb dX3_save_25 rfl (lv_at hl 1 rfl) ?_
  refine k_get (ci := 3) (v := .ref a0.2.1) (C := RX3) (T := TX3) (N := 3) hx hb hts hown hz hw (by decide +kernel) 0 rfl rfl 0 (by decide) (hts (.fieldLink RX3 11 "OccupancyMonitor$History" "ring" "[LOccupancyMonitor$State;") (by decide +kernel)) (fun _ h9 => h9) rfl dX3_save_26 ?_
  refine k_alenq hx hb hz hw 1 rfl dX3_save_29 ?_
  refine W.eq (g2 := F0 m 30 ls [.int (4 : Int32), .int (3 : Int32), .ref a0.1]) rfl ?_
  refine lv_icmp_ge (tgt := 42) hx hb dX3_save_30 (by decide) (fun c4 => absurd c4 (by decide)) (fun _ => ?_)
  refine lv_aload_n hx hb dX3_save_33 rfl (lv_at hl 1 rfl) ?_
  refine k_get (ci := 3) (v := .int (2 : Int32)) (C := RX3) (T := TX3) (N := 3) hx hb hts hown hz hw (by decide +kernel) 0 rfl rfl 1 (by decide) (hts (.fieldLink RX3 18 "OccupancyMonitor$History" "next" "I") (by decide +kernel)) (fun _ h9 => h9) rfl dX3_save_34 ?_
  refine lv_iconst (v := 1) hx hb dX3_save_37 (by decide) ?_
  refine lv_iadd hx hb dX3_save_38 ?_
  refine lv_topi (fun x5 ex5 => ?_)
  obtain rfl : x5 = (3 : Int32) := ex5.trans (by decide)
  refine lv_goto (tgt := 43) hx hb dX3_save_39 (by decide) ?_
  refine k_put (ci := 3) (v := .int (3 : Int32)) (ty := .int) (C := RX3) (T := TX3) (N := 3) (bs1 := [[(a0.1, .inr (3, [.ref a0.2.1, .int (3 : Int32), .int v0.2.2.2.2.2]))], [(a0.2.1, .inl (cR, 4, .inr (.inr (.inr (.inr (rg a0))))))], w8 cA a0.2.2.1 v0.1, w8 cA a0.2.2.2.1 v0.2.1, w8 cA a0.2.2.2.2.1 o2, w8 cA a0.2.2.2.2.2 v0.2.2.2.1, w8 cA a1 v1]) hx hb hts hown hz hw (by decide +kernel) tyX3 tyX3_ok nmX3 0 rfl rfl 1 (by decide) (hts (.fieldLink RX3 18 "OccupancyMonitor$History" "next" "I") (by decide +kernel)) (fun _ h9 => h9) rfl (by decide +kernel) rfl rfl (Nat.le_of_ble_eq_true rfl) dX3_save_43 rfl (fun H locs hw => ?_)
  refine lv_aload_n hx hb dX3_save_46 rfl (lv_at hl 1 rfl) ?_
  refine lv_aload_n hx hb dX3_save_47 rfl (lv_at hl 1 rfl) ?_
  refine k_get (ci := 3) (v := .int v0.2.2.2.2.2) (C := RX3) (T := TX3) (N := 3) hx hb hts hown hz hw (by decide +kernel) 0 rfl rfl 2 (by decide) (hts (.fieldLink RX3 30 "OccupancyMonitor$History" "count" "I") (by decide +kernel)) (fun _ h9 => h9) rfl dX3_save_48 ?_
  refine lv_iconst (v := 1) hx hb dX3_save_51 (by decide) ?_
  refine lv_iadd hx hb dX3_save_52 ?_
  refine lv_aload_n hx hb dX3_save_53 rfl (lv_at hl 1 rfl) ?_
  refine k_get (ci := 3) (v := .ref a0.2.1) (C := RX3) (T := TX3) (N := 3) hx hb hts hown hz hw (by decide +kernel) 0 rfl rfl 0 (by decide) (hts (.fieldLink RX3 11 "OccupancyMonitor$History" "ring" "[LOccupancyMonitor$State;") (by decide +kernel)) (fun _ h9 => h9) rfl dX3_save_54 ?_
  refine k_alenq hx hb hz hw 1 rfl dX3_save_57 ?_
  refine W.eq (g2 := F0 m 58 ls [.int (4 : Int32), .int (v0.2.2.2.2.2 + (1 : Int32)), .ref a0.1]) rfl ?_
  refine va_mmin hx hb (by rw [hml]; exact hl.1.symm) hown (hts (.methodLink RX3 33 Lib.Math.min.name) (by decide +kernel)) (hts (.static Lib.Math.min.name) (by decide +kernel)) (hts (.initialized "java/lang/Math") (by decide +kernel)) (hts (.code Lib.Math.min.name Lib.Math.min.code 2 (some .int)) (by decide +kernel)) (Nat.le_of_ble_eq_true rfl) (Nat.le_of_ble_eq_true rfl) (Nat.le_of_ble_eq_true rfl) (Nat.le_of_ble_eq_true rfl) dX3_save_58 ?_
  refine lv_topi (fun x6 ex6 => ?_)
  have hsp := lt_of hsp ex6
  refine k_put (ci := 3) (v := .int x6) (ty := .int) (C := RX3) (T := TX3) (N := 3) (bs1 := [[(a0.1, .inr (3, [.ref a0.2.1, .int (3 : Int32), .int x6]))], [(a0.2.1, .inl (cR, 4, .inr (.inr (.inr (.inr (rg a0))))))], w8 cA a0.2.2.1 v0.1, w8 cA a0.2.2.2.1 v0.2.1, w8 cA a0.2.2.2.2.1 o2, w8 cA a0.2.2.2.2.2 v0.2.2.2.1, w8 cA a1 v1]) hx hb hts hown hz hw (by decide +kernel) tyX3 tyX3_ok nmX3 0 rfl rfl 2 (by decide) (hts (.fieldLink RX3 30 "OccupancyMonitor$History" "count" "I") (by decide +kernel)) (fun _ h9 => h9) rfl (by decide +kernel) rfl rfl (Nat.le_of_ble_eq_true rfl) dX3_save_61 rfl (fun H locs hw => ?_)
  have hsp := Option.some.inj hsp
  subst hsp
  have hw : ww A s.heap D [w3 cA cR a0 (v0.1, v0.2.1, o2, v0.2.2.2.1, (3 : Int32), x6), w8 cA a1 v1] H locs := hw
  subst hQ
  exact k_vret hx hb hr hlk hw dX3_save_64

noncomputable def sX3_save_3 (v0 : V3) (v1 : V8) : Option (V3) := ((sX3_stateAt_3 (v0.1, v0.2.1, v0.2.2.1, v0.2.2.2.1, (3 : Int32), v0.2.2.2.2.2)).bind (fun o1 => ((sX8_copyFrom v0.2.2.2.1 v1).bind (fun o2 => (lt_ (if (4 : Int32) < (v0.2.2.2.2.2 + (1 : Int32)) then (4 : Int32) else (v0.2.2.2.2.2 + (1 : Int32))) (fun x5 => (some (v0.1, v0.2.1, v0.2.2.1, o2, (0 : Int32), x5))))))))
abbrev rX3_save_3 : Room := { frames := 4, cells := 0, slots := 0, locals := 89 }
set_option maxHeartbeats 4000000 in
set_option maxRecDepth 100000 in
theorem mX3_save_3 (l : Launch) (D : va_G) (cA cR : ClassId) (a0 : A3) (v0 : V3) (a1 : A8) (v1 : V8) (o : V3) (hsp : sX3_save_3 v0 v1 = some o) : MI l yX3_save wsX3_save rX3_save_3 D cA cR [.ref a0.1, .ref a1.1] [w3 cA cR a0 (v0.1, v0.2.1, v0.2.2.1, v0.2.2.2.1, (3 : Int32), v0.2.2.2.2.2), w8 cA a1 v1] none [w3 cA cR a0 o, w8 cA a1 v1] 0 0 := by
  have hsp : ((sX3_stateAt_3 (v0.1, v0.2.1, v0.2.2.1, v0.2.2.2.1, (3 : Int32), v0.2.2.2.2.2)).bind (fun o1 => ((sX8_copyFrom v0.2.2.2.1 v1).bind (fun o2 => (lt_ (if (4 : Int32) < (v0.2.2.2.2.2 + (1 : Int32)) then (4 : Int32) else (v0.2.2.2.2.2 + (1 : Int32))) (fun x5 => (some (v0.1, v0.2.1, v0.2.2.1, o2, (0 : Int32), x5)))))))) = some o := hsp
  refine MI.ofW (cc := cX3_save) (maxL := 3) (ret := none) (by decide) rfl (Nat.le_of_ble_eq_true rfl) ?_
  intro p e s m args below meth c A ls Q H locs hx hb hr hlk hml hown hnm hts hz hA hQ hw hl
  have hl : lv_has ls 3 [(0, .ref a0.1), (1, .ref a1.1)] := hl
  have hw : ww A s.heap D [[(a0.1, .inr (3, [.ref a0.2.1, .int (3 : Int32), .int v0.2.2.2.2.2]))], [(a0.2.1, .inl (cR, 4, .inr (.inr (.inr (.inr (rg a0))))))], w8 cA a0.2.2.1 v0.1, w8 cA a0.2.2.2.1 v0.2.1, w8 cA a0.2.2.2.2.1 v0.2.2.1, w8 cA a0.2.2.2.2.2 v0.2.2.2.1, w8 cA a1 v1] H locs := hw
  refine lv_aload_n hx hb dX3_save_0 rfl (lv_at hl 0 rfl) ?_
  refine lv_aload_n hx hb dX3_save_1 rfl (lv_at hl 0 rfl) ?_
  refine k_get (ci := 3) (v := .int (3 : Int32)) (C := RX3) (T := TX3) (N := 3) hx hb hts hown hz hw (by decide +kernel) 0 rfl rfl 1 (by decide) (hts (.fieldLink RX3 18 "OccupancyMonitor$History" "next" "I") (by decide +kernel)) (fun _ h9 => h9) rfl dX3_save_2 ?_
  have hw : ww A s.heap D [w3 cA cR a0 (v0.1, v0.2.1, v0.2.2.1, v0.2.2.2.1, (3 : Int32), v0.2.2.2.2.2), w8 cA a1 v1] H locs := hw
  obtain ⟨o1, hso1, hsp⟩ := bnd_of hsp
  refine k_callV (ci := 3) (C := RX3) (T := TX3) (N := 3) (nA := 1) (As := [.int (3 : Int32)]) (cs := [w3 cA cR a0 (v0.1, v0.2.1, v0.2.2.1, v0.2.2.2.1, (3 : Int32), v0.2.2.2.2.2)]) (rs := [w8 cA a1 v1]) (cs1 := [w3 cA cR a0 (v0.1, v0.2.1, v0.2.2.1, v0.2.2.2.1, (3 : Int32), v0.2.2.2.2.2)]) (bs1 := [w3 cA cR a0 (v0.1, v0.2.1, v0.2.2.1, v0.2.2.2.1, (3 : Int32), v0.2.2.2.2.2), w8 cA a1 v1]) (rest := []) (st1 := [.ref a0.2.2.2.2.2.1]) ⟨hx, hb, hml, hown, hts⟩ hz hw hA (mX3_stateAt_3 l D cA cR a0 (v0.1, v0.2.1, v0.2.2.1, v0.2.2.2.1, (3 : Int32), v0.2.2.2.2.2) o1 hso1) gX3_save_X3_stateAt rfl rfl rfl (by decide +kernel) rfl ⟨Nat.le_of_ble_eq_true rfl, Nat.le_of_ble_eq_true rfl⟩ rfl rfl hl.1 rfl (Nat.le_of_ble_eq_true rfl) dX3_save_5 ⟨Nat.le_of_ble_eq_true rfl, Nat.le_of_ble_eq_true rfl⟩ [0] [1] [1, 0] rfl rfl rfl rfl rfl rfl (fun H locs hw => ?_)
  have hw : ww A s.heap D [[(a0.1, .inr (3, [.ref a0.2.1, .int (3 : Int32), .int v0.2.2.2.2.2]))], [(a0.2.1, .inl (cR, 4, .inr (.inr (.inr (.inr (rg a0))))))], w8 cA a0.2.2.1 v0.1, w8 cA a0.2.2.2.1 v0.2.1, w8 cA a0.2.2.2.2.1 v0.2.2.1, w8 cA a0.2.2.2.2.2 v0.2.2.2.1, w8 cA a1 v1] H locs := hw
  refine lv_astore_n (lv' := [(2, .ref a0.2.2.2.2.2.1), (0, .ref a0.1), (1, .ref a1.1)]) hx hb dX3_save_8 rfl hl (by decide) rfl (fun ls hl => ?_)
  refine lv_aload_n hx hb dX3_save_9 rfl (lv_at hl 0 rfl) ?_
  refine lv_ifnull hx hb dX3_save_10 ?_
  refine lv_aload_n hx hb dX3_save_13 rfl (lv_at hl 0 rfl) ?_
  refine lv_aload_n hx hb dX3_save_14 rfl (lv_at hl 2 rfl) ?_
  obtain ⟨o2, hso2, hsp⟩ := bnd_of hsp
  refine k_callV (ci := 8) (C := RX8) (T := TX8) (N := 9) (nA := 1) (As := [.ref a1.1]) (cs := [w8 cA a0.2.2.2.2.2 v0.2.2.2.1, w8 cA a1 v1]) (rs := [[(a0.1, .inr (3, [.ref a0.2.1, .int (3 : Int32), .int v0.2.2.2.2.2]))], [(a0.2.1, .inl (cR, 4, .inr (.inr (.inr (.inr (rg a0))))))], w8 cA a0.2.2.1 v0.1, w8 cA a0.2.2.2.1 v0.2.1, w8 cA a0.2.2.2.2.1 v0.2.2.1]) (cs1 := [w8 cA a0.2.2.2.2.2 o2, w8 cA a1 v1]) (bs1 := [[(a0.1, .inr (3, [.ref a0.2.1, .int (3 : Int32), .int v0.2.2.2.2.2]))], [(a0.2.1, .inl (cR, 4, .inr (.inr (.inr (.inr (rg a0))))))], w8 cA a0.2.2.1 v0.1, w8 cA a0.2.2.2.1 v0.2.1, w8 cA a0.2.2.2.2.1 v0.2.2.1, w8 cA a0.2.2.2.2.2 o2, w8 cA a1 v1]) (rest := []) (st1 := []) ⟨hx, hb, hml, hown, hts⟩ hz hw hA (mX8_copyFrom l D cA cR a0.2.2.2.2.2 v0.2.2.2.1 a1 v1 o2 hso2) gX3_save_X8_copyFrom rfl rfl rfl (by decide +kernel) rfl ⟨Nat.le_of_ble_eq_true rfl, Nat.le_of_ble_eq_true rfl⟩ rfl rfl hl.1 rfl (Nat.le_of_ble_eq_true rfl) dX3_save_15 ⟨Nat.le_of_ble_eq_true rfl, Nat.le_of_ble_eq_true rfl⟩ [5, 6] [0, 1, 2, 3, 4] [0, 1, 2, 3, 4, 5, 6] rfl rfl rfl rfl rfl rfl (fun H locs hw => ?_)
  refine lv_aload_n hx hb dX3_save_18 rfl (lv_at hl 1 rfl) ?_
  refine lv_aload_n hx hb dX3_save_19 rfl (lv_at hl 1 rfl) ?_
  refine k_get (ci := 3) (v := .int (3 : Int32)) (C := RX3) (T := TX3) (N := 3) hx hb hts hown hz hw (by decide +kernel) 0 rfl rfl 1 (by decide) (hts (.fieldLink RX3 18 "OccupancyMonitor$History" "next" "I") (by decide +kernel)) (fun _ h9 => h9) rfl dX3_save_20 ?_
  refine lv_iconst (v := 1) hx hb dX3_save_23 (by decide) ?_
  refine lv_iadd hx hb dX3_save_24 ?_
  refine lv_topi (fun x3 ex3 => ?_)
  obtain rfl : x3 = (4 : Int32) := ex3.trans (by decide)
  refine lv_aload_n hx hb dX3_save_25 rfl (lv_at hl 1 rfl) ?_
  refine k_get (ci := 3) (v := .ref a0.2.1) (C := RX3) (T := TX3) (N := 3) hx hb hts hown hz hw (by decide +kernel) 0 rfl rfl 0 (by decide) (hts (.fieldLink RX3 11 "OccupancyMonitor$History" "ring" "[LOccupancyMonitor$State;") (by decide +kernel)) (fun _ h9 => h9) rfl dX3_save_26 ?_
  refine k_alenq hx hb hz hw 1 rfl dX3_save_29 ?_
  refine W.eq (g2 := F0 m 30 ls [.int (4 : Int32), .int (4 : Int32), .ref a0.1]) rfl ?_
  refine lv_icmp_ge (tgt := 42) hx hb dX3_save_30 (by decide) (fun _ => ?_) (fun c4 => absurd c4 (by decide))
  refine lv_iconst (v := 0) hx hb dX3_save_42 (by decide) ?_
  refine k_put (ci := 3) (v := .int (0 : Int32)) (ty := .int) (C := RX3) (T := TX3) (N := 3) (bs1 := [[(a0.1, .inr (3, [.ref a0.2.1, .int (0 : Int32), .int v0.2.2.2.2.2]))], [(a0.2.1, .inl (cR, 4, .inr (.inr (.inr (.inr (rg a0))))))], w8 cA a0.2.2.1 v0.1, w8 cA a0.2.2.2.1 v0.2.1, w8 cA a0.2.2.2.2.1 v0.2.2.1, w8 cA a0.2.2.2.2.2 o2, w8 cA a1 v1]) hx hb hts hown hz hw (by decide +kernel) tyX3 tyX3_ok nmX3 0 rfl rfl 1 (by decide) (hts (.fieldLink RX3 18 "OccupancyMonitor$History" "next" "I") (by decide +kernel)) (fun _ h9 => h9) rfl (by decide +kernel) rfl rfl (Nat.le_of_ble_eq_true rfl) dX3_save_43 rfl (fun H locs hw => ?_)
  refine lv_aload_n hx hb dX3_save_46 rfl (lv_at hl 1 rfl) ?_
  refine lv_aload_n hx hb dX3_save_47 rfl (lv_at hl 1 rfl) ?_
  refine k_get (ci := 3) (v := .int v0.2.2.2.2.2) (C := RX3) (T := TX3) (N := 3) hx hb hts hown hz hw (by decide +kernel) 0 rfl rfl 2 (by decide) (hts (.fieldLink RX3 30 "OccupancyMonitor$History" "count" "I") (by decide +kernel)) (fun _ h9 => h9) rfl dX3_save_48 ?_
  refine lv_iconst (v := 1) hx hb dX3_save_51 (by decide) ?_
  refine lv_iadd hx hb dX3_save_52 ?_
  refine lv_aload_n hx hb dX3_save_53 rfl (lv_at hl 1 rfl) ?_
  refine k_get (ci := 3) (v := .ref a0.2.1) (C := RX3) (T := TX3) (N := 3) hx hb hts hown hz hw (by decide +kernel) 0 rfl rfl 0 (by decide) (hts (.fieldLink RX3 11 "OccupancyMonitor$History" "ring" "[LOccupancyMonitor$State;") (by decide +kernel)) (fun _ h9 => h9) rfl dX3_save_54 ?_
  refine k_alenq hx hb hz hw 1 rfl dX3_save_57 ?_
  refine W.eq (g2 := F0 m 58 ls [.int (4 : Int32), .int (v0.2.2.2.2.2 + (1 : Int32)), .ref a0.1]) rfl ?_
  refine va_mmin hx hb (by rw [hml]; exact hl.1.symm) hown (hts (.methodLink RX3 33 Lib.Math.min.name) (by decide +kernel)) (hts (.static Lib.Math.min.name) (by decide +kernel)) (hts (.initialized "java/lang/Math") (by decide +kernel)) (hts (.code Lib.Math.min.name Lib.Math.min.code 2 (some .int)) (by decide +kernel)) (Nat.le_of_ble_eq_true rfl) (Nat.le_of_ble_eq_true rfl) (Nat.le_of_ble_eq_true rfl) (Nat.le_of_ble_eq_true rfl) dX3_save_58 ?_
  refine lv_topi (fun x5 ex5 => ?_)
  have hsp := lt_of hsp ex5
  refine k_put (ci := 3) (v := .int x5) (ty := .int) (C := RX3) (T := TX3) (N := 3) (bs1 := [[(a0.1, .inr (3, [.ref a0.2.1, .int (0 : Int32), .int x5]))], [(a0.2.1, .inl (cR, 4, .inr (.inr (.inr (.inr (rg a0))))))], w8 cA a0.2.2.1 v0.1, w8 cA a0.2.2.2.1 v0.2.1, w8 cA a0.2.2.2.2.1 v0.2.2.1, w8 cA a0.2.2.2.2.2 o2, w8 cA a1 v1]) hx hb hts hown hz hw (by decide +kernel) tyX3 tyX3_ok nmX3 0 rfl rfl 2 (by decide) (hts (.fieldLink RX3 30 "OccupancyMonitor$History" "count" "I") (by decide +kernel)) (fun _ h9 => h9) rfl (by decide +kernel) rfl rfl (Nat.le_of_ble_eq_true rfl) dX3_save_61 rfl (fun H locs hw => ?_)
  have hsp := Option.some.inj hsp
  subst hsp
  have hw : ww A s.heap D [w3 cA cR a0 (v0.1, v0.2.1, v0.2.2.1, o2, (0 : Int32), x5), w8 cA a1 v1] H locs := hw
  subst hQ
  exact k_vret hx hb hr hlk hw dX3_save_64

noncomputable def sX3_save (v0 : V3) (v1 : V8) : Option (V3) := (if v0.2.2.2.2.1 = 0 then sX3_save_0 v0 v1 else (if v0.2.2.2.2.1 = 1 then sX3_save_1 v0 v1 else (if v0.2.2.2.2.1 = 2 then sX3_save_2 v0 v1 else (if v0.2.2.2.2.1 = 3 then sX3_save_3 v0 v1 else none))))
abbrev rX3_save : Room := { frames := 4, cells := 0, slots := 0, locals := 89 }
theorem mX3_save (l : Launch) (D : va_G) (cA cR : ClassId) (a0 : A3) (v0 : V3) (a1 : A8) (v1 : V8) (o : V3) (hsp : sX3_save v0 v1 = some o) : MI l yX3_save wsX3_save rX3_save D cA cR [.ref a0.1, .ref a1.1] [w3 cA cR a0 v0, w8 cA a1 v1] none [w3 cA cR a0 o, w8 cA a1 v1] 0 0 := by
  have hsp : (if v0.2.2.2.2.1 = 0 then sX3_save_0 v0 v1 else (if v0.2.2.2.2.1 = 1 then sX3_save_1 v0 v1 else (if v0.2.2.2.2.1 = 2 then sX3_save_2 v0 v1 else (if v0.2.2.2.2.1 = 3 then sX3_save_3 v0 v1 else none)))) = some o := hsp
  obtain ⟨t0, t1, t2, t3, nx, ct⟩ := v0
  by_cases h0 : nx = 0
  · have hsp := ift (show (t0, t1, t2, t3, nx, ct).2.2.2.2.1 = 0 from h0) hsp
    subst h0
    exact mX3_save_0 l D cA cR a0 _ a1 v1 o hsp
  have hsp := iff_ (show ¬ (t0, t1, t2, t3, nx, ct).2.2.2.2.1 = 0 from h0) hsp
  by_cases h1 : nx = 1
  · have hsp := ift (show (t0, t1, t2, t3, nx, ct).2.2.2.2.1 = 1 from h1) hsp
    subst h1
    exact mX3_save_1 l D cA cR a0 _ a1 v1 o hsp
  have hsp := iff_ (show ¬ (t0, t1, t2, t3, nx, ct).2.2.2.2.1 = 1 from h1) hsp
  by_cases h2 : nx = 2
  · have hsp := ift (show (t0, t1, t2, t3, nx, ct).2.2.2.2.1 = 2 from h2) hsp
    subst h2
    exact mX3_save_2 l D cA cR a0 _ a1 v1 o hsp
  have hsp := iff_ (show ¬ (t0, t1, t2, t3, nx, ct).2.2.2.2.1 = 2 from h2) hsp
  by_cases h3 : nx = 3
  · have hsp := ift (show (t0, t1, t2, t3, nx, ct).2.2.2.2.1 = 3 from h3) hsp
    subst h3
    exact mX3_save_3 l D cA cR a0 _ a1 v1 o hsp
  have hsp := iff_ (show ¬ (t0, t1, t2, t3, nx, ct).2.2.2.2.1 = 3 from h3) hsp
  cases hsp
noncomputable def sX3_restore_0 (v0 : V3) (v1 : V8) : Option (V3 × V8) := ((sX3_stateAt_3 (v0.1, v0.2.1, v0.2.2.1, v0.2.2.2.1, (0 : Int32), v0.2.2.2.2.2)).bind (fun o3 => (if v0.2.2.2.2.2 ≤ 0 then (some ((v0.1, v0.2.1, v0.2.2.1, v0.2.2.2.1, (0 : Int32), v0.2.2.2.2.2), v1)) else ((sX8_copyFrom v1 v0.2.2.2.1).bind (fun o5 => (some ((v0.1, v0.2.1, v0.2.2.1, v0.2.2.2.1, (3 : Int32), (v0.2.2.2.2.2 - (1 : Int32))), o5)))))))
abbrev rX3_restore_0 : Room := { frames := 4, cells := 0, slots := 0, locals := 89 }
set_option maxHeartbeats 4000000 in
set_option maxRecDepth 100000 in
theorem mX3_restore_0 (l : Launch) (D : va_G) (cA cR : ClassId) (a0 : A3) (v0 : V3) (a1 : A8) (v1 : V8) (o : V3 × V8) (hsp : sX3_restore_0 v0 v1 = some o) : MI l yX3_restore wsX3_restore rX3_restore_0 D cA cR [.ref a0.1, .ref a1.1] [w3 cA cR a0 (v0.1, v0.2.1, v0.2.2.1, v0.2.2.2.1, (0 : Int32), v0.2.2.2.2.2), w8 cA a1 v1] none [w3 cA cR a0 o.1, w8 cA a1 o.2] 0 0 := by
  have hsp : ((sX3_stateAt_3 (v0.1, v0.2.1, v0.2.2.1, v0.2.2.2.1, (0 : Int32), v0.2.2.2.2.2)).bind (fun o3 => (if v0.2.2.2.2.2 ≤ 0 then (some ((v0.1, v0.2.1, v0.2.2.1, v0.2.2.2.1, (0 : Int32), v0.2.2.2.2.2), v1)) else ((sX8_copyFrom v1 v0.2.2.2.1).bind (fun o5 => (some ((v0.1, v0.2.1, v0.2.2.1, v0.2.2.2.1, (3 : Int32), (v0.2.2.2.2.2 - (1 : Int32))), o5))))))) = some o := hsp
  refine MI.ofW (cc := cX3_restore) (maxL := 4) (ret := none) (by decide) rfl (Nat.le_of_ble_eq_true rfl) ?_
  intro p e s m args below meth c A ls Q H locs hx hb hr hlk hml hown hnm hts hz hA hQ hw hl
  have hl : lv_has ls 4 [(0, .ref a0.1), (1, .ref a1.1)] := hl
  have hw : ww A s.heap D [[(a0.1, .inr (3, [.ref a0.2.1, .int (0 : Int32), .int v0.2.2.2.2.2]))], [(a0.2.1, .inl (cR, 4, .inr (.inr (.inr (.inr (rg a0))))))], w8 cA a0.2.2.1 v0.1, w8 cA a0.2.2.2.1 v0.2.1, w8 cA a0.2.2.2.2.1 v0.2.2.1, w8 cA a0.2.2.2.2.2 v0.2.2.2.1, w8 cA a1 v1] H locs := hw
  refine lv_aload_n hx hb dX3_restore_0 rfl (lv_at hl 0 rfl) ?_
  refine k_get (ci := 3) (v := .int (0 : Int32)) (C := RX3) (T := TX3) (N := 3) hx hb hts hown hz hw (by decide +kernel) 0 rfl rfl 1 (by decide) (hts (.fieldLink RX3 18 "OccupancyMonitor$History" "next" "I") (by decide +kernel)) (fun _ h9 => h9) rfl dX3_restore_1 ?_
  refine lv_if_le (tgt := 16) hx hb dX3_restore_4 (by decide) (fun _ => ?_) (fun c1 => absurd c1 (by decide))
  refine lv_aload_n hx hb dX3_restore_16 rfl (lv_at hl 0 rfl) ?_
  refine k_get (ci := 3) (v := .ref a0.2.1) (C := RX3) (T := TX3) (N := 3) hx hb hts hown hz hw (by decide +kernel) 0 rfl rfl 0 (by decide) (hts (.fieldLink RX3 11 "OccupancyMonitor$History" "ring" "[LOccupancyMonitor$State;") (by decide +kernel)) (fun _ h9 => h9) rfl dX3_restore_17 ?_
  refine k_alenq hx hb hz hw 1 rfl dX3_restore_20 ?_
  refine W.eq (g2 := F0 m 21 ls [.int (4 : Int32)]) rfl ?_
  refine lv_iconst (v := 1) hx hb dX3_restore_21 (by decide) ?_
  refine lv_isub hx hb dX3_restore_22 ?_
  refine lv_topi (fun x2 ex2 => ?_)
  obtain rfl : x2 = (3 : Int32) := ex2.trans (by decide)
  refine lv_istore_n (lv' := [(2, .int (3 : Int32)), (0, .ref a0.1), (1, .ref a1.1)]) hx hb dX3_restore_23 rfl hl (by decide) rfl (fun ls hl => ?_)
  refine lv_aload_n hx hb dX3_restore_24 rfl (lv_at hl 1 rfl) ?_
  refine lv_iload_n hx hb dX3_restore_25 rfl (lv_at hl 0 rfl) ?_
  have hw : ww A s.heap D [w3 cA cR a0 (v0.1, v0.2.1, v0.2.2.1, v0.2.2.2.1, (0 : Int32), v0.2.2.2.2.2), w8 cA a1 v1] H locs := hw
  obtain ⟨o3, hso3, hsp⟩ := bnd_of hsp
  refine k_callV (ci := 3) (C := RX3) (T := TX3) (N := 3) (nA := 1) (As := [.int (3 : Int32)]) (cs := [w3 cA cR a0 (v0.1, v0.2.1, v0.2.2.1, v0.2.2.2.1, (0 : Int32), v0.2.2.2.2.2)]) (rs := [w8 cA a1 v1]) (cs1 := [w3 cA cR a0 (v0.1, v0.2.1, v0.2.2.1, v0.2.2.2.1, (0 : Int32), v0.2.2.2.2.2)]) (bs1 := [w3 cA cR a0 (v0.1, v0.2.1, v0.2.2.1, v0.2.2.2.1, (0 : Int32), v0.2.2.2.2.2), w8 cA a1 v1]) (rest := []) (st1 := [.ref a0.2.2.2.2.2.1]) ⟨hx, hb, hml, hown, hts⟩ hz hw hA (mX3_stateAt_3 l D cA cR a0 (v0.1, v0.2.1, v0.2.2.1, v0.2.2.2.1, (0 : Int32), v0.2.2.2.2.2) o3 hso3) gX3_restore_X3_stateAt rfl rfl rfl (by decide +kernel) rfl ⟨Nat.le_of_ble_eq_true rfl, Nat.le_of_ble_eq_true rfl⟩ rfl rfl hl.1 rfl (Nat.le_of_ble_eq_true rfl) dX3_restore_26 ⟨Nat.le_of_ble_eq_true rfl, Nat.le_of_ble_eq_true rfl⟩ [0] [1] [1, 0] rfl rfl rfl rfl rfl rfl (fun H locs hw => ?_)
  have hw : ww A s.heap D [[(a0.1, .inr (3, [.ref a0.2.1, .int (0 : Int32), .int v0.2.2.2.2.2]))], [(a0.2.1, .inl (cR, 4, .inr (.inr (.inr (.inr (rg a0))))))], w8 cA a0.2.2.1 v0.1, w8 cA a0.2.2.2.1 v0.2.1, w8 cA a0.2.2.2.2.1 v0.2.2.1, w8 cA a0.2.2.2.2.2 v0.2.2.2.1, w8 cA a1 v1] H locs := hw
  refine lv_astore_n (lv' := [(3, .ref a0.2.2.2.2.2.1), (2, .int (3 : Int32)), (0, .ref a0.1), (1, .ref a1.1)]) hx hb dX3_restore_29 rfl hl (by decide) rfl (fun ls hl => ?_)
  refine lv_aload_n hx hb dX3_restore_30 rfl (lv_at hl 0 rfl) ?_
  refine lv_ifnull hx hb dX3_restore_31 ?_
  refine lv_aload_n hx hb dX3_restore_34 rfl (lv_at hl 2 rfl) ?_
  refine k_get (ci := 3) (v := .int v0.2.2.2.2.2) (C := RX3) (T := TX3) (N := 3) hx hb hts hown hz hw (by decide +kernel) 0 rfl rfl 2 (by decide) (hts (.fieldLink RX3 30 "OccupancyMonitor$History" "count" "I") (by decide +kernel)) (fun _ h9 => h9) rfl dX3_restore_35 ?_
  refine lv_if_le (tgt := 61) hx hb dX3_restore_38 (by decide) (fun c4 => ?_) (fun c4 => ?_)
  · have hsp := ift c4 hsp
    have hsp := Option.some.inj hsp
    subst hsp
    have hw : ww A s.heap D [w3 cA cR a0 (v0.1, v0.2.1, v0.2.2.1, v0.2.2.2.1, (0 : Int32), v0.2.2.2.2.2), w8 cA a1 v1] H locs := hw
    subst hQ
    exact k_vret hx hb hr hlk hw dX3_restore_61
  · have hsp := iff_ c4 hsp
    refine lv_aload_n hx hb dX3_restore_41 rfl (lv_at hl 3 rfl) ?_
    refine lv_aload_n hx hb dX3_restore_42 rfl (lv_at hl 0 rfl) ?_
    obtain ⟨o5, hso5, hsp⟩ := bnd_of hsp
    refine k_callV (ci := 8) (C := RX8) (T := TX8) (N := 9) (nA := 1) (As := [.ref a0.2.2.2.2.2.1]) (cs := [w8 cA a1 v1, w8 cA a0.2.2.2.2.2 v0.2.2.2.1]) (rs := [[(a0.1, .inr (3, [.ref a0.2.1, .int (0 : Int32), .int v0.2.2.2.2.2]))], [(a0.2.1, .inl (cR, 4, .inr (.inr (.inr (.inr (rg a0))))))], w8 cA a0.2.2.1 v0.1, w8 cA a0.2.2.2.1 v0.2.1, w8 cA a0.2.2.2.2.1 v0.2.2.1]) (cs1 := [w8 cA a1 o5, w8 cA a0.2.2.2.2.2 v0.2.2.2.1]) (bs1 := [[(a0.1, .inr (3, [.ref a0.2.1, .int (0 : Int32), .int v0.2.2.2.2.2]))], [(a0.2.1, .inl (cR, 4, .inr (.inr (.inr (.inr (rg a0))))))], w8 cA a0.2.2.1 v0.1, w8 cA a0.2.2.2.1 v0.2.1, w8 cA a0.2.2.2.2.1 v0.2.2.1, w8 cA a0.2.2.2.2.2 v0.2.2.2.1, w8 cA a1 o5]) (rest := []) (st1 := []) ⟨hx, hb, hml, hown, hts⟩ hz hw hA (mX8_copyFrom l D cA cR a1 v1 a0.2.2.2.2.2 v0.2.2.2.1 o5 hso5) gX3_restore_X8_copyFrom rfl rfl rfl (by decide +kernel) rfl ⟨Nat.le_of_ble_eq_true rfl, Nat.le_of_ble_eq_true rfl⟩ rfl rfl hl.1 rfl (Nat.le_of_ble_eq_true rfl) dX3_restore_43 ⟨Nat.le_of_ble_eq_true rfl, Nat.le_of_ble_eq_true rfl⟩ [6, 5] [0, 1, 2, 3, 4] [0, 1, 2, 3, 4, 6, 5] rfl rfl rfl rfl rfl rfl (fun H locs hw => ?_)
    refine lv_aload_n hx hb dX3_restore_46 rfl (lv_at hl 2 rfl) ?_
    refine lv_iload_n hx hb dX3_restore_47 rfl (lv_at hl 1 rfl) ?_
    refine k_put (ci := 3) (v := .int (3 : Int32)) (ty := .int) (C := RX3) (T := TX3) (N := 3) (bs1 := [[(a0.1, .inr (3, [.ref a0.2.1, .int (3 : Int32), .int v0.2.2.2.2.2]))], [(a0.2.1, .inl (cR, 4, .inr (.inr (.inr (.inr (rg a0))))))], w8 cA a0.2.2.1 v0.1, w8 cA a0.2.2.2.1 v0.2.1, w8 cA a0.2.2.2.2.1 v0.2.2.1, w8 cA a0.2.2.2.2.2 v0.2.2.2.1, w8 cA a1 o5]) hx hb hts hown hz hw (by decide +kernel) tyX3 tyX3_ok nmX3 0 rfl rfl 1 (by decide) (hts (.fieldLink RX3 18 "OccupancyMonitor$History" "next" "I") (by decide +kernel)) (fun _ h9 => h9) rfl (by decide +kernel) rfl rfl (Nat.le_of_ble_eq_true rfl) dX3_restore_48 rfl (fun H locs hw => ?_)
    refine lv_aload_n hx hb dX3_restore_51 rfl (lv_at hl 2 rfl) ?_
    refine lv_dup hx hb dX3_restore_52 rfl ?_
    refine k_get (ci := 3) (v := .int v0.2.2.2.2.2) (C := RX3) (T := TX3) (N := 3) hx hb hts hown hz hw (by decide +kernel) 0 rfl rfl 2 (by decide) (hts (.fieldLink RX3 30 "OccupancyMonitor$History" "count" "I") (by decide +kernel)) (fun _ h9 => h9) rfl dX3_restore_53 ?_
    refine lv_iconst (v := 1) hx hb dX3_restore_56 (by decide) ?_
    refine lv_isub hx hb dX3_restore_57 ?_
    refine k_put (ci := 3) (v := .int (v0.2.2.2.2.2 - (1 : Int32))) (ty := .int) (C := RX3) (T := TX3) (N := 3) (bs1 := [[(a0.1, .inr (3, [.ref a0.2.1, .int (3 : Int32), .int (v0.2.2.2.2.2 - (1 : Int32))]))], [(a0.2.1, .inl (cR, 4, .inr (.inr (.inr (.inr (rg a0))))))], w8 cA a0.2.2.1 v0.1, w8 cA a0.2.2.2.1 v0.2.1, w8 cA a0.2.2.2.2.1 v0.2.2.1, w8 cA a0.2.2.2.2.2 v0.2.2.2.1, w8 cA a1 o5]) hx hb hts hown hz hw (by decide +kernel) tyX3 tyX3_ok nmX3 0 rfl rfl 2 (by decide) (hts (.fieldLink RX3 30 "OccupancyMonitor$History" "count" "I") (by decide +kernel)) (fun _ h9 => h9) rfl (by decide +kernel) rfl rfl (Nat.le_of_ble_eq_true rfl) dX3_restore_58 rfl (fun H locs hw => ?_)
    have hsp := Option.some.inj hsp
    subst hsp
    have hw : ww A s.heap D [w3 cA cR a0 (v0.1, v0.2.1, v0.2.2.1, v0.2.2.2.1, (3 : Int32), (v0.2.2.2.2.2 - (1 : Int32))), w8 cA a1 o5] H locs := hw
    subst hQ
    exact k_vret hx hb hr hlk hw dX3_restore_61

noncomputable def sX3_restore_1 (v0 : V3) (v1 : V8) : Option (V3 × V8) := ((sX3_stateAt_0 (v0.1, v0.2.1, v0.2.2.1, v0.2.2.2.1, (1 : Int32), v0.2.2.2.2.2)).bind (fun o3 => (if v0.2.2.2.2.2 ≤ 0 then (some ((v0.1, v0.2.1, v0.2.2.1, v0.2.2.2.1, (1 : Int32), v0.2.2.2.2.2), v1)) else ((sX8_copyFrom v1 v0.1).bind (fun o5 => (some ((v0.1, v0.2.1, v0.2.2.1, v0.2.2.2.1, (0 : Int32), (v0.2.2.2.2.2 - (1 : Int32))), o5)))))))
abbrev rX3_restore_1 : Room := { frames := 4, cells := 0, slots := 0, locals := 89 }
set_option maxHeartbeats 4000000 in
set_option maxRecDepth 100000 in
theorem mX3_restore_1 (l : Launch) (D : va_G) (cA cR : ClassId) (a0 : A3) (v0 : V3) (a1 : A8) (v1 : V8) (o : V3 × V8) (hsp : sX3_restore_1 v0 v1 = some o) : MI l yX3_restore wsX3_restore rX3_restore_1 D cA cR [.ref a0.1, .ref a1.1] [w3 cA cR a0 (v0.1, v0.2.1, v0.2.2.1, v0.2.2.2.1, (1 : Int32), v0.2.2.2.2.2), w8 cA a1 v1] none [w3 cA cR a0 o.1, w8 cA a1 o.2] 0 0 := by
  have hsp : ((sX3_stateAt_0 (v0.1, v0.2.1, v0.2.2.1, v0.2.2.2.1, (1 : Int32), v0.2.2.2.2.2)).bind (fun o3 => (if v0.2.2.2.2.2 ≤ 0 then (some ((v0.1, v0.2.1, v0.2.2.1, v0.2.2.2.1, (1 : Int32), v0.2.2.2.2.2), v1)) else ((sX8_copyFrom v1 v0.1).bind (fun o5 => (some ((v0.1, v0.2.1, v0.2.2.1, v0.2.2.2.1, (0 : Int32), (v0.2.2.2.2.2 - (1 : Int32))), o5))))))) = some o := hsp
  refine MI.ofW (cc := cX3_restore) (maxL := 4) (ret := none) (by decide) rfl (Nat.le_of_ble_eq_true rfl) ?_
  intro p e s m args below meth c A ls Q H locs hx hb hr hlk hml hown hnm hts hz hA hQ hw hl
  have hl : lv_has ls 4 [(0, .ref a0.1), (1, .ref a1.1)] := hl
  have hw : ww A s.heap D [[(a0.1, .inr (3, [.ref a0.2.1, .int (1 : Int32), .int v0.2.2.2.2.2]))], [(a0.2.1, .inl (cR, 4, .inr (.inr (.inr (.inr (rg a0))))))], w8 cA a0.2.2.1 v0.1, w8 cA a0.2.2.2.1 v0.2.1, w8 cA a0.2.2.2.2.1 v0.2.2.1, w8 cA a0.2.2.2.2.2 v0.2.2.2.1, w8 cA a1 v1] H locs := hw
  refine lv_aload_n hx hb dX3_restore_0 rfl (lv_at hl 0 rfl) ?_
  refine k_get (ci := 3) (v := .int (1 : Int32)) (C := RX3) (T := TX3) (N := 3) hx hb hts hown hz hw (by decide +kernel) 0 rfl rfl 1 (by decide) (hts (.fieldLink RX3 18 "OccupancyMonitor$History" "next" "I") (by decide +kernel)) (fun _ h9 => h9) rfl dX3_restore_1 ?_
  refine lv_if_le (tgt := 16) hx hb dX3_restore_4 (by decide) (fun c1 => absurd c1 (by decide)) (fun _ => ?_)
  refine lv_aload_n hx hb dX3_restore_7 rfl (lv_at hl 0 rfl) ?_
  refine k_get (ci := 3) (v := .int (1 : Int32)) (C := RX3) (T := TX3) (N := 3) hx hb hts hown hz hw (by decide +kernel) 0 rfl rfl 1 (by decide) (hts (.fieldLink RX3 18 "OccupancyMonitor$History" "next" "I") (by decide +kernel)) (fun _ h9 => h9) rfl dX3_restore_8 ?_
  refine lv_iconst (v := 1) hx hb dX3_restore_11 (by decide) ?_
  refine lv_isub hx hb dX3_restore_12 ?_
  refine lv_topi (fun x2 ex2 => ?_)
  obtain rfl : x2 = (0 : Int32) := ex2.trans (by decide)
  refine lv_goto (tgt := 23) hx hb dX3_restore_13 (by decide) ?_
  refine lv_istore_n (lv' := [(2, .int (0 : Int32)), (0, .ref a0.1), (1, .ref a1.1)]) hx hb dX3_restore_23 rfl hl (by decide) rfl (fun ls hl => ?_)
  refine lv_aload_n hx hb dX3_restore_24 rfl (lv_at hl 1 rfl) ?_
  refine lv_iload_n hx hb dX3_restore_25 rfl (lv_at hl 0 rfl) ?_
  have hw : ww A s.heap D [w3 cA cR a0 (v0.1, v0.2.1, v0.2.2.1, v0.2.2.2.1, (1 : Int32), v0.2.2.2.2.2), w8 cA a1 v1] H locs := hw
  obtain ⟨o3, hso3, hsp⟩ := bnd_of hsp
  refine k_callV (ci := 3) (C := RX3) (T := TX3) (N := 3) (nA := 1) (As := [.int (0 : Int32)]) (cs := [w3 cA cR a0 (v0.1, v0.2.1, v0.2.2.1, v0.2.2.2.1, (1 : Int32), v0.2.2.2.2.2)]) (rs := [w8 cA a1 v1]) (cs1 := [w3 cA cR a0 (v0.1, v0.2.1, v0.2.2.1, v0.2.2.2.1, (1 : Int32), v0.2.2.2.2.2)]) (bs1 := [w3 cA cR a0 (v0.1, v0.2.1, v0.2.2.1, v0.2.2.2.1, (1 : Int32), v0.2.2.2.2.2), w8 cA a1 v1]) (rest := []) (st1 := [.ref a0.2.2.1.1]) ⟨hx, hb, hml, hown, hts⟩ hz hw hA (mX3_stateAt_0 l D cA cR a0 (v0.1, v0.2.1, v0.2.2.1, v0.2.2.2.1, (1 : Int32), v0.2.2.2.2.2) o3 hso3) gX3_restore_X3_stateAt rfl rfl rfl (by decide +kernel) rfl ⟨Nat.le_of_ble_eq_true rfl, Nat.le_of_ble_eq_true rfl⟩ rfl rfl hl.1 rfl (Nat.le_of_ble_eq_true rfl) dX3_restore_26 ⟨Nat.le_of_ble_eq_true rfl, Nat.le_of_ble_eq_true rfl⟩ [0] [1] [1, 0] rfl rfl rfl rfl rfl rfl (fun H locs hw => ?_)
  have hw : ww A s.heap D [[(a0.1, .inr (3, [.ref a0.2.1, .int (1 : Int32), .int v0.2.2.2.2.2]))], [(a0.2.1, .inl (cR, 4, .inr (.inr (.inr (.inr (rg a0))))))], w8 cA a0.2.2.1 v0.1, w8 cA a0.2.2.2.1 v0.2.1, w8 cA a0.2.2.2.2.1 v0.2.2.1, w8 cA a0.2.2.2.2.2 v0.2.2.2.1, w8 cA a1 v1] H locs := hw
  refine lv_astore_n (lv' := [(3, .ref a0.2.2.1.1), (2, .int (0 : Int32)), (0, .ref a0.1), (1, .ref a1.1)]) hx hb dX3_restore_29 rfl hl (by decide) rfl (fun ls hl => ?_)
  refine lv_aload_n hx hb dX3_restore_30 rfl (lv_at hl 0 rfl) ?_
  refine lv_ifnull hx hb dX3_restore_31 ?_
  refine lv_aload_n hx hb dX3_restore_34 rfl (lv_at hl 2 rfl) ?_
  refine k_get (ci := 3) (v := .int v0.2.2.2.2.2) (C := RX3) (T := TX3) (N := 3) hx hb hts hown hz hw (by decide +kernel) 0 rfl rfl 2 (by decide) (hts (.fieldLink RX3 30 "OccupancyMonitor$History" "count" "I") (by decide +kernel)) (fun _ h9 => h9) rfl dX3_restore_35 ?_
  refine lv_if_le (tgt := 61) hx hb dX3_restore_38 (by decide) (fun c4 => ?_) (fun c4 => ?_)
  · have hsp := ift c4 hsp
    have hsp := Option.some.inj hsp
    subst hsp
    have hw : ww A s.heap D [w3 cA cR a0 (v0.1, v0.2.1, v0.2.2.1, v0.2.2.2.1, (1 : Int32), v0.2.2.2.2.2), w8 cA a1 v1] H locs := hw
    subst hQ
    exact k_vret hx hb hr hlk hw dX3_restore_61
  · have hsp := iff_ c4 hsp
    refine lv_aload_n hx hb dX3_restore_41 rfl (lv_at hl 3 rfl) ?_
    refine lv_aload_n hx hb dX3_restore_42 rfl (lv_at hl 0 rfl) ?_
    obtain ⟨o5, hso5, hsp⟩ := bnd_of hsp
    refine k_callV (ci := 8) (C := RX8) (T := TX8) (N := 9) (nA := 1) (As := [.ref a0.2.2.1.1]) (cs := [w8 cA a1 v1, w8 cA a0.2.2.1 v0.1]) (rs := [[(a0.1, .inr (3, [.ref a0.2.1, .int (1 : Int32), .int v0.2.2.2.2.2]))], [(a0.2.1, .inl (cR, 4, .inr (.inr (.inr (.inr (rg a0))))))], w8 cA a0.2.2.2.1 v0.2.1, w8 cA a0.2.2.2.2.1 v0.2.2.1, w8 cA a0.2.2.2.2.2 v0.2.2.2.1]) (cs1 := [w8 cA a1 o5, w8 cA a0.2.2.1 v0.1]) (bs1 := [[(a0.1, .inr (3, [.ref a0.2.1, .int (1 : Int32), .int v0.2.2.2.2.2]))], [(a0.2.1, .inl (cR, 4, .inr (.inr (.inr (.inr (rg a0))))))], w8 cA a0.2.2.1 v0.1, w8 cA a0.2.2.2.1 v0.2.1, w8 cA a0.2.2.2.2.1 v0.2.2.1, w8 cA a0.2.2.2.2.2 v0.2.2.2.1, w8 cA a1 o5]) (rest := []) (st1 := []) ⟨hx, hb, hml, hown, hts⟩ hz hw hA (mX8_copyFrom l D cA cR a1 v1 a0.2.2.1 v0.1 o5 hso5) gX3_restore_X8_copyFrom rfl rfl rfl (by decide +kernel) rfl ⟨Nat.le_of_ble_eq_true rfl, Nat.le_of_ble_eq_true rfl⟩ rfl rfl hl.1 rfl (Nat.le_of_ble_eq_true rfl) dX3_restore_43 ⟨Nat.le_of_ble_eq_true rfl, Nat.le_of_ble_eq_true rfl⟩ [6, 2] [0, 1, 3, 4, 5] [0, 1, 6, 2, 3, 4, 5] rfl rfl rfl rfl rfl rfl (fun H locs hw => ?_)
    refine lv_aload_n hx hb dX3_restore_46 rfl (lv_at hl 2 rfl) ?_
    refine lv_iload_n hx hb dX3_restore_47 rfl (lv_at hl 1 rfl) ?_
    refine k_put (ci := 3) (v := .int (0 : Int32)) (ty := .int) (C := RX3) (T := TX3) (N := 3) (bs1 := [[(a0.1, .inr (3, [.ref a0.2.1, .int (0 : Int32), .int v0.2.2.2.2.2]))], [(a0.2.1, .inl (cR, 4, .inr (.inr (.inr (.inr (rg a0))))))], w8 cA a0.2.2.1 v0.1, w8 cA a0.2.2.2.1 v0.2.1, w8 cA a0.2.2.2.2.1 v0.2.2.1, w8 cA a0.2.2.2.2.2 v0.2.2.2.1, w8 cA a1 o5]) hx hb hts hown hz hw (by decide +kernel) tyX3 tyX3_ok nmX3 0 rfl rfl 1 (by decide) (hts (.fieldLink RX3 18 "OccupancyMonitor$History" "next" "I") (by decide +kernel)) (fun _ h9 => h9) rfl (by decide +kernel) rfl rfl (Nat.le_of_ble_eq_true rfl) dX3_restore_48 rfl (fun H locs hw => ?_)
    refine lv_aload_n hx hb dX3_restore_51 rfl (lv_at hl 2 rfl) ?_
    refine lv_dup hx hb dX3_restore_52 rfl ?_
    refine k_get (ci := 3) (v := .int v0.2.2.2.2.2) (C := RX3) (T := TX3) (N := 3) hx hb hts hown hz hw (by decide +kernel) 0 rfl rfl 2 (by decide) (hts (.fieldLink RX3 30 "OccupancyMonitor$History" "count" "I") (by decide +kernel)) (fun _ h9 => h9) rfl dX3_restore_53 ?_
    refine lv_iconst (v := 1) hx hb dX3_restore_56 (by decide) ?_
    refine lv_isub hx hb dX3_restore_57 ?_
    refine k_put (ci := 3) (v := .int (v0.2.2.2.2.2 - (1 : Int32))) (ty := .int) (C := RX3) (T := TX3) (N := 3) (bs1 := [[(a0.1, .inr (3, [.ref a0.2.1, .int (0 : Int32), .int (v0.2.2.2.2.2 - (1 : Int32))]))], [(a0.2.1, .inl (cR, 4, .inr (.inr (.inr (.inr (rg a0))))))], w8 cA a0.2.2.1 v0.1, w8 cA a0.2.2.2.1 v0.2.1, w8 cA a0.2.2.2.2.1 v0.2.2.1, w8 cA a0.2.2.2.2.2 v0.2.2.2.1, w8 cA a1 o5]) hx hb hts hown hz hw (by decide +kernel) tyX3 tyX3_ok nmX3 0 rfl rfl 2 (by decide) (hts (.fieldLink RX3 30 "OccupancyMonitor$History" "count" "I") (by decide +kernel)) (fun _ h9 => h9) rfl (by decide +kernel) rfl rfl (Nat.le_of_ble_eq_true rfl) dX3_restore_58 rfl (fun H locs hw => ?_)
    have hsp := Option.some.inj hsp
    subst hsp
    have hw : ww A s.heap D [w3 cA cR a0 (v0.1, v0.2.1, v0.2.2.1, v0.2.2.2.1, (0 : Int32), (v0.2.2.2.2.2 - (1 : Int32))), w8 cA a1 o5] H locs := hw
    subst hQ
    exact k_vret hx hb hr hlk hw dX3_restore_61

noncomputable def sX3_restore_2 (v0 : V3) (v1 : V8) : Option (V3 × V8) := ((sX3_stateAt_1 (v0.1, v0.2.1, v0.2.2.1, v0.2.2.2.1, (2 : Int32), v0.2.2.2.2.2)).bind (fun o3 => (if v0.2.2.2.2.2 ≤ 0 then (some ((v0.1, v0.2.1, v0.2.2.1, v0.2.2.2.1, (2 : Int32), v0.2.2.2.2.2), v1)) else ((sX8_copyFrom v1 v0.2.1).bind (fun o5 => (some ((v0.1, v0.2.1, v0.2.2.1, v0.2.2.2.1, (1 : Int32), (v0.2.2.2.2.2 - (1 : Int32))), o5)))))))
abbrev rX3_restore_2 : Room := { frames := 4, cells := 0, slots := 0, locals := 89 }
set_option maxHeartbeats 4000000 in
set_option maxRecDepth 100000 in
theorem mX3_restore_2 (l : Launch) (D : va_G) (cA cR : ClassId) (a0 : A3) (v0 : V3) (a1 : A8) (v1 : V8) (o : V3 × V8) (hsp : sX3_restore_2 v0 v1 = some o) : MI l yX3_restore wsX3_restore rX3_restore_2 D cA cR [.ref a0.1, .ref a1.1] [w3 cA cR a0 (v0.1, v0.2.1, v0.2.2.1, v0.2.2.2.1, (2 : Int32), v0.2.2.2.2.2), w8 cA a1 v1] none [w3 cA cR a0 o.1, w8 cA a1 o.2] 0 0 := by
  have hsp : ((sX3_stateAt_1 (v0.1, v0.2.1, v0.2.2.1, v0.2.2.2.1, (2 : Int32), v0.2.2.2.2.2)).bind (fun o3 => (if v0.2.2.2.2.2 ≤ 0 then (some ((v0.1, v0.2.1, v0.2.2.1, v0.2.2.2.1, (2 : Int32), v0.2.2.2.2.2), v1)) else ((sX8_copyFrom v1 v0.2.1).bind (fun o5 => (some ((v0.1, v0.2.1, v0.2.2.1, v0.2.2.2.1, (1 : Int32), (v0.2.2.2.2.2 - (1 : Int32))), o5))))))) = some o := hsp
  refine MI.ofW (cc := cX3_restore) (maxL := 4) (ret := none) (by decide) rfl (Nat.le_of_ble_eq_true rfl) ?_
  intro p e s m args below meth c A ls Q H locs hx hb hr hlk hml hown hnm hts hz hA hQ hw hl
  have hl : lv_has ls 4 [(0, .ref a0.1), (1, .ref a1.1)] := hl
  have hw : ww A s.heap D [[(a0.1, .inr (3, [.ref a0.2.1, .int (2 : Int32), .int v0.2.2.2.2.2]))], [(a0.2.1, .inl (cR, 4, .inr (.inr (.inr (.inr (rg a0))))))], w8 cA a0.2.2.1 v0.1, w8 cA a0.2.2.2.1 v0.2.1, w8 cA a0.2.2.2.2.1 v0.2.2.1, w8 cA a0.2.2.2.2.2 v0.2.2.2.1, w8 cA a1 v1] H locs := hw
  refine lv_aload_n hx hb dX3_restore_0 rfl (lv_at hl 0 rfl) ?_
  refine k_get (ci := 3) (v := .int (2 : Int32)) (C := RX3) (T := TX3) (N := 3) hx hb hts hown hz hw (by decide +kernel) 0 rfl rfl 1 (by decide) (hts (.fieldLink RX3 18 "OccupancyMonitor$History" "next" "I") (by decide +kernel)) (fun _ h9 => h9) rfl dX3_restore_1 ?_
  refine lv_if_le (tgt := 16) hx hb dX3_restore_4 (by decide) (fun c1 => absurd c1 (by decide)) (fun _ => ?_)
  refine lv_aload_n hx hb dX3_restore_7 rfl (lv_at hl 0 rfl) ?_
  refine k_get (ci := 3) (v := .int (2 : Int32)) (C := RX3) (T := TX3) (N := 3) hx hb hts hown hz hw (by decide +kernel) 0 rfl rfl 1 (by decide) (hts (.fieldLink RX3 18 "OccupancyMonitor$History" "next" "I") (by decide +kernel)) (fun _ h9 => h9) rfl dX3_restore_8 ?_
  refine lv_iconst (v := 1) hx hb dX3_restore_11 (by decide) ?_
  refine lv_isub hx hb dX3_restore_12 ?_
  refine lv_topi (fun x2 ex2 => ?_)
  obtain rfl : x2 = (1 : Int32) := ex2.trans (by decide)
  refine lv_goto (tgt := 23) hx hb dX3_restore_13 (by decide) ?_
  refine lv_istore_n (lv' := [(2, .int (1 : Int32)), (0, .ref a0.1), (1, .ref a1.1)]) hx hb dX3_restore_23 rfl hl (by decide) rfl (fun ls hl => ?_)
  refine lv_aload_n hx hb dX3_restore_24 rfl (lv_at hl 1 rfl) ?_
  refine lv_iload_n hx hb dX3_restore_25 rfl (lv_at hl 0 rfl) ?_
  have hw : ww A s.heap D [w3 cA cR a0 (v0.1, v0.2.1, v0.2.2.1, v0.2.2.2.1, (2 : Int32), v0.2.2.2.2.2), w8 cA a1 v1] H locs := hw
  obtain ⟨o3, hso3, hsp⟩ := bnd_of hsp
  refine k_callV (ci := 3) (C := RX3) (T := TX3) (N := 3) (nA := 1) (As := [.int (1 : Int32)]) (cs := [w3 cA cR a0 (v0.1, v0.2.1, v0.2.2.1, v0.2.2.2.1, (2 : Int32), v0.2.2.2.2.2)]) (rs := [w8 cA a1 v1]) (cs1 := [w3 cA cR a0 (v0.1, v0.2.1, v0.2.2.1, v0.2.2.2.1, (2 : Int32), v0.2.2.2.2.2)]) (bs1 := [w3 cA cR a0 (v0.1, v0.2.1, v0.2.2.1, v0.2.2.2.1, (2 : Int32), v0.2.2.2.2.2), w8 cA a1 v1]) (rest := []) (st1 := [.ref a0.2.2.2.1.1]) ⟨hx, hb, hml, hown, hts⟩ hz hw hA (mX3_stateAt_1 l D cA cR a0 (v0.1, v0.2.1, v0.2.2.1, v0.2.2.2.1, (2 : Int32), v0.2.2.2.2.2) o3 hso3) gX3_restore_X3_stateAt rfl rfl rfl (by decide +kernel) rfl ⟨Nat.le_of_ble_eq_true rfl, Nat.le_of_ble_eq_true rfl⟩ rfl rfl hl.1 rfl (Nat.le_of_ble_eq_true rfl) dX3_restore_26 ⟨Nat.le_of_ble_eq_true rfl, Nat.le_of_ble_eq_true rfl⟩ [0] [1] [1, 0] rfl rfl rfl rfl rfl rfl (fun H locs hw => ?_)
  have hw : ww A s.heap D [[(a0.1, .inr (3, [.ref a0.2.1, .int (2 : Int32), .int v0.2.2.2.2.2]))], [(a0.2.1, .inl (cR, 4, .inr (.inr (.inr (.inr (rg a0))))))], w8 cA a0.2.2.1 v0.1, w8 cA a0.2.2.2.1 v0.2.1, w8 cA a0.2.2.2.2.1 v0.2.2.1, w8 cA a0.2.2.2.2.2 v0.2.2.2.1, w8 cA a1 v1] H locs := hw
  refine lv_astore_n (lv' := [(3, .ref a0.2.2.2.1.1), (2, .int (1 : Int32)), (0, .ref a0.1), (1, .ref a1.1)]) hx hb dX3_restore_29 rfl hl (by decide) rfl (fun ls hl => ?_)
  refine lv_aload_n hx hb dX3_restore_30 rfl (lv_at hl 0 rfl) ?_
  refine lv_ifnull hx hb dX3_restore_31 ?_
  refine lv_aload_n hx hb dX3_restore_34 rfl (lv_at hl 2 rfl) ?_
  refine k_get (ci := 3) (v := .int v0.2.2.2.2.2) (C := RX3) (T := TX3) (N := 3) hx hb hts hown hz hw (by decide +kernel) 0 rfl rfl 2 (by decide) (hts (.fieldLink RX3 30 "OccupancyMonitor$History" "count" "I") (by decide +kernel)) (fun _ h9 => h9) rfl dX3_restore_35 ?_
  refine lv_if_le (tgt := 61) hx hb dX3_restore_38 (by decide) (fun c4 => ?_) (fun c4 => ?_)
  · have hsp := ift c4 hsp
    have hsp := Option.some.inj hsp
    subst hsp
    have hw : ww A s.heap D [w3 cA cR a0 (v0.1, v0.2.1, v0.2.2.1, v0.2.2.2.1, (2 : Int32), v0.2.2.2.2.2), w8 cA a1 v1] H locs := hw
    subst hQ
    exact k_vret hx hb hr hlk hw dX3_restore_61
  · have hsp := iff_ c4 hsp
    refine lv_aload_n hx hb dX3_restore_41 rfl (lv_at hl 3 rfl) ?_
    refine lv_aload_n hx hb dX3_restore_42 rfl (lv_at hl 0 rfl) ?_
    obtain ⟨o5, hso5, hsp⟩ := bnd_of hsp
    refine k_callV (ci := 8) (C := RX8) (T := TX8) (N := 9) (nA := 1) (As := [.ref a0.2.2.2.1.1]) (cs := [w8 cA a1 v1, w8 cA a0.2.2.2.1 v0.2.1]) (rs := [[(a0.1, .inr (3, [.ref a0.2.1, .int (2 : Int32), .int v0.2.2.2.2.2]))], [(a0.2.1, .inl (cR, 4, .inr (.inr (.inr (.inr (rg a0))))))], w8 cA a0.2.2.1 v0.1, w8 cA a0.2.2.2.2.1 v0.2.2.1, w8 cA a0.2.2.2.2.2 v0.2.2.2.1]) (cs1 := [w8 cA a1 o5, w8 cA a0.2.2.2.1 v0.2.1]) (bs1 := [[(a0.1, .inr (3, [.ref a0.2.1, .int (2 : Int32), .int v0.2.2.2.2.2]))], [(a0.2.1, .inl (cR, 4, .inr (.inr (.inr (.inr (rg a0))))))], w8 cA a0.2.2.1 v0.1, w8 cA a0.2.2.2.1 v0.2.1, w8 cA a0.2.2.2.2.1 v0.2.2.1, w8 cA a0.2.2.2.2.2 v0.2.2.2.1, w8 cA a1 o5]) (rest := []) (st1 := []) ⟨hx, hb, hml, hown, hts⟩ hz hw hA (mX8_copyFrom l D cA cR a1 v1 a0.2.2.2.1 v0.2.1 o5 hso5) gX3_restore_X8_copyFrom rfl rfl rfl (by decide +kernel) rfl ⟨Nat.le_of_ble_eq_true rfl, Nat.le_of_ble_eq_true rfl⟩ rfl rfl hl.1 rfl (Nat.le_of_ble_eq_true rfl) dX3_restore_43 ⟨Nat.le_of_ble_eq_true rfl, Nat.le_of_ble_eq_true rfl⟩ [6, 3] [0, 1, 2, 4, 5] [0, 1, 2, 6, 3, 4, 5] rfl rfl rfl rfl rfl rfl (fun H locs hw => ?_)
    refine lv_aload_n hx hb dX3_restore_46 rfl (lv_at hl 2 rfl) ?_
    refine lv_iload_n hx hb dX3_restore_47 rfl (lv_at hl 1 rfl) ?_
    refine k_put (ci := 3) (v := .int (1 : Int32)) (ty := .int) (C := RX3) (T := TX3) (N := 3) (bs1 := [[(a0.1, .inr (3, [.ref a0.2.1, .int (1 : Int32), .int v0.2.2.2.2.2]))], [(a0.2.1, .inl (cR, 4, .inr (.inr (.inr (.inr (rg a0))))))], w8 cA a0.2.2.1 v0.1, w8 cA a0.2.2.2.1 v0.2.1, w8 cA a0.2.2.2.2.1 v0.2.2.1, w8 cA a0.2.2.2.2.2 v0.2.2.2.1, w8 cA a1 o5]) hx hb hts hown hz hw (by decide +kernel) tyX3 tyX3_ok nmX3 0 rfl rfl 1 (by decide) (hts (.fieldLink RX3 18 "OccupancyMonitor$History" "next" "I") (by decide +kernel)) (fun _ h9 => h9) rfl (by decide +kernel) rfl rfl (Nat.le_of_ble_eq_true rfl) dX3_restore_48 rfl (fun H locs hw => ?_)
    refine lv_aload_n hx hb dX3_restore_51 rfl (lv_at hl 2 rfl) ?_
    refine lv_dup hx hb dX3_restore_52 rfl ?_
    refine k_get (ci := 3) (v := .int v0.2.2.2.2.2) (C := RX3) (T := TX3) (N := 3) hx hb hts hown hz hw (by decide +kernel) 0 rfl rfl 2 (by decide) (hts (.fieldLink RX3 30 "OccupancyMonitor$History" "count" "I") (by decide +kernel)) (fun _ h9 => h9) rfl dX3_restore_53 ?_
    refine lv_iconst (v := 1) hx hb dX3_restore_56 (by decide) ?_
    refine lv_isub hx hb dX3_restore_57 ?_
    refine k_put (ci := 3) (v := .int (v0.2.2.2.2.2 - (1 : Int32))) (ty := .int) (C := RX3) (T := TX3) (N := 3) (bs1 := [[(a0.1, .inr (3, [.ref a0.2.1, .int (1 : Int32), .int (v0.2.2.2.2.2 - (1 : Int32))]))], [(a0.2.1, .inl (cR, 4, .inr (.inr (.inr (.inr (rg a0))))))], w8 cA a0.2.2.1 v0.1, w8 cA a0.2.2.2.1 v0.2.1, w8 cA a0.2.2.2.2.1 v0.2.2.1, w8 cA a0.2.2.2.2.2 v0.2.2.2.1, w8 cA a1 o5]) hx hb hts hown hz hw (by decide +kernel) tyX3 tyX3_ok nmX3 0 rfl rfl 2 (by decide) (hts (.fieldLink RX3 30 "OccupancyMonitor$History" "count" "I") (by decide +kernel)) (fun _ h9 => h9) rfl (by decide +kernel) rfl rfl (Nat.le_of_ble_eq_true rfl) dX3_restore_58 rfl (fun H locs hw => ?_)
    have hsp := Option.some.inj hsp
    subst hsp
    have hw : ww A s.heap D [w3 cA cR a0 (v0.1, v0.2.1, v0.2.2.1, v0.2.2.2.1, (1 : Int32), (v0.2.2.2.2.2 - (1 : Int32))), w8 cA a1 o5] H locs := hw
    subst hQ
    exact k_vret hx hb hr hlk hw dX3_restore_61

noncomputable def sX3_restore_3 (v0 : V3) (v1 : V8) : Option (V3 × V8) := ((sX3_stateAt_2 (v0.1, v0.2.1, v0.2.2.1, v0.2.2.2.1, (3 : Int32), v0.2.2.2.2.2)).bind (fun o3 => (if v0.2.2.2.2.2 ≤ 0 then (some ((v0.1, v0.2.1, v0.2.2.1, v0.2.2.2.1, (3 : Int32), v0.2.2.2.2.2), v1)) else ((sX8_copyFrom v1 v0.2.2.1).bind (fun o5 => (some ((v0.1, v0.2.1, v0.2.2.1, v0.2.2.2.1, (2 : Int32), (v0.2.2.2.2.2 - (1 : Int32))), o5)))))))
abbrev rX3_restore_3 : Room := { frames := 4, cells := 0, slots := 0, locals := 89 }
set_option maxHeartbeats 4000000 in
set_option maxRecDepth 100000 in
theorem mX3_restore_3 (l : Launch) (D : va_G) (cA cR : ClassId) (a0 : A3) (v0 : V3) (a1 : A8) (v1 : V8) (o : V3 × V8) (hsp : sX3_restore_3 v0 v1 = some o) : MI l yX3_restore wsX3_restore rX3_restore_3 D cA cR [.ref a0.1, .ref a1.1] [w3 cA cR a0 (v0.1, v0.2.1, v0.2.2.1, v0.2.2.2.1, (3 : Int32), v0.2.2.2.2.2), w8 cA a1 v1] none [w3 cA cR a0 o.1, w8 cA a1 o.2] 0 0 := by
  have hsp : ((sX3_stateAt_2 (v0.1, v0.2.1, v0.2.2.1, v0.2.2.2.1, (3 : Int32), v0.2.2.2.2.2)).bind (fun o3 => (if v0.2.2.2.2.2 ≤ 0 then (some ((v0.1, v0.2.1, v0.2.2.1, v0.2.2.2.1, (3 : Int32), v0.2.2.2.2.2), v1)) else ((sX8_copyFrom v1 v0.2.2.1).bind (fun o5 => (some ((v0.1, v0.2.1, v0.2.2.1, v0.2.2.2.1, (2 : Int32), (v0.2.2.2.2.2 - (1 : Int32))), o5))))))) = some o := hsp
  refine MI.ofW (cc := cX3_restore) (maxL := 4) (ret := none) (by decide) rfl (Nat.le_of_ble_eq_true rfl) ?_
  intro p e s m args below meth c A ls Q H locs hx hb hr hlk hml hown hnm hts hz hA hQ hw hl
  have hl : lv_has ls 4 [(0, .ref a0.1), (1, .ref a1.1)] := hl
  have hw : ww A s.heap D [[(a0.1, .inr (3, [.ref a0.2.1, .int (3 : Int32), .int v0.2.2.2.2.2]))], [(a0.2.1, .inl (cR, 4, .inr (.inr (.inr (.inr (rg a0))))))], w8 cA a0.2.2.1 v0.1, w8 cA a0.2.2.2.1 v0.2.1, w8 cA a0.2.2.2.2.1 v0.2.2.1, w8 cA a0.2.2.2.2.2 v0.2.2.2.1, w8 cA a1 v1] H locs := hw
  refine lv_aload_n hx hb dX3_restore_0 rfl (lv_at hl 0 rfl) ?_
  refine k_get (ci := 3) (v := .int (3 : Int32)) (C := RX3) (T := TX3) (N := 3) hx hb hts hown hz hw (by decide +kernel) 0 rfl rfl 1 (by decide) (hts (.fieldLink RX3 18 "OccupancyMonitor$History" "next" "I") (by decide +kernel)) (fun _ h9 => h9) rfl dX3_restore_1 ?_
  refine lv_if_le (tgt := 16) hx hb dX3_restore_4 (by decide) (fun c1 => absurd c1 (by decide)) (fun _ => ?_)
  refine lv_aload_n hx hb dX3_restore_7 rfl (lv_at hl 0 rfl) ?_
  refine k_get (ci := 3) (v := .int (3 : Int32)) (C := RX3) (T := TX3) (N := 3) hx hb hts hown hz hw (by decide +kernel) 0 rfl rfl 1 (by decide) (hts (.fieldLink RX3 18 "OccupancyMonitor$History" "next" "I") (by decide +kernel)) (fun _ h9 => h9) rfl dX3_restore_8 ?_
  refine lv_iconst (v := 1) hx hb dX3_restore_11 (by decide) ?_
  refine lv_isub hx hb dX3_restore_12 ?_
  refine lv_topi (fun x2 ex2 => ?_)
  obtain rfl : x2 = (2 : Int32) := ex2.trans (by decide)
  refine lv_goto (tgt := 23) hx hb dX3_restore_13 (by decide) ?_
  refine lv_istore_n (lv' := [(2, .int (2 : Int32)), (0, .ref a0.1), (1, .ref a1.1)]) hx hb dX3_restore_23 rfl hl (by decide) rfl (fun ls hl => ?_)
  refine lv_aload_n hx hb dX3_restore_24 rfl (lv_at hl 1 rfl) ?_
  refine lv_iload_n hx hb dX3_restore_25 rfl (lv_at hl 0 rfl) ?_
  have hw : ww A s.heap D [w3 cA cR a0 (v0.1, v0.2.1, v0.2.2.1, v0.2.2.2.1, (3 : Int32), v0.2.2.2.2.2), w8 cA a1 v1] H locs := hw
  obtain ⟨o3, hso3, hsp⟩ := bnd_of hsp
  refine k_callV (ci := 3) (C := RX3) (T := TX3) (N := 3) (nA := 1) (As := [.int (2 : Int32)]) (cs := [w3 cA cR a0 (v0.1, v0.2.1, v0.2.2.1, v0.2.2.2.1, (3 : Int32), v0.2.2.2.2.2)]) (rs := [w8 cA a1 v1]) (cs1 := [w3 cA cR a0 (v0.1, v0.2.1, v0.2.2.1, v0.2.2.2.1, (3 : Int32), v0.2.2.2.2.2)]) (bs1 := [w3 cA cR a0 (v0.1, v0.2.1, v0.2.2.1, v0.2.2.2.1, (3 : Int32), v0.2.2.2.2.2), w8 cA a1 v1]) (rest := []) (st1 := [.ref a0.2.2.2.2.1.1]) ⟨hx, hb, hml, hown, hts⟩ hz hw hA (mX3_stateAt_2 l D cA cR a0 (v0.1, v0.2.1, v0.2.2.1, v0.2.2.2.1, (3 : Int32), v0.2.2.2.2.2) o3 hso3) gX3_restore_X3_stateAt rfl rfl rfl (by decide +kernel) rfl ⟨Nat.le_of_ble_eq_true rfl, Nat.le_of_ble_eq_true rfl⟩ rfl rfl hl.1 rfl (Nat.le_of_ble_eq_true rfl) dX3_restore_26 ⟨Nat.le_of_ble_eq_true rfl, Nat.le_of_ble_eq_true rfl⟩ [0] [1] [1, 0] rfl rfl rfl rfl rfl rfl (fun H locs hw => ?_)
  have hw : ww A s.heap D [[(a0.1, .inr (3, [.ref a0.2.1, .int (3 : Int32), .int v0.2.2.2.2.2]))], [(a0.2.1, .inl (cR, 4, .inr (.inr (.inr (.inr (rg a0))))))], w8 cA a0.2.2.1 v0.1, w8 cA a0.2.2.2.1 v0.2.1, w8 cA a0.2.2.2.2.1 v0.2.2.1, w8 cA a0.2.2.2.2.2 v0.2.2.2.1, w8 cA a1 v1] H locs := hw
  refine lv_astore_n (lv' := [(3, .ref a0.2.2.2.2.1.1), (2, .int (2 : Int32)), (0, .ref a0.1), (1, .ref a1.1)]) hx hb dX3_restore_29 rfl hl (by decide) rfl (fun ls hl => ?_)
  refine lv_aload_n hx hb dX3_restore_30 rfl (lv_at hl 0 rfl) ?_
  refine lv_ifnull hx hb dX3_restore_31 ?_
  refine lv_aload_n hx hb dX3_restore_34 rfl (lv_at hl 2 rfl) ?_
  refine k_get (ci := 3) (v := .int v0.2.2.2.2.2) (C := RX3) (T := TX3) (N := 3) hx hb hts hown hz hw (by decide +kernel) 0 rfl rfl 2 (by decide) (hts (.fieldLink RX3 30 "OccupancyMonitor$History" "count" "I") (by decide +kernel)) (fun _ h9 => h9) rfl dX3_restore_35 ?_
  refine lv_if_le (tgt := 61) hx hb dX3_restore_38 (by decide) (fun c4 => ?_) (fun c4 => ?_)
  · have hsp := ift c4 hsp
    have hsp := Option.some.inj hsp
    subst hsp
    have hw : ww A s.heap D [w3 cA cR a0 (v0.1, v0.2.1, v0.2.2.1, v0.2.2.2.1, (3 : Int32), v0.2.2.2.2.2), w8 cA a1 v1] H locs := hw
    subst hQ
    exact k_vret hx hb hr hlk hw dX3_restore_61
  · have hsp := iff_ c4 hsp
    refine lv_aload_n hx hb dX3_restore_41 rfl (lv_at hl 3 rfl) ?_
    refine lv_aload_n hx hb dX3_restore_42 rfl (lv_at hl 0 rfl) ?_
    obtain ⟨o5, hso5, hsp⟩ := bnd_of hsp
    refine k_callV (ci := 8) (C := RX8) (T := TX8) (N := 9) (nA := 1) (As := [.ref a0.2.2.2.2.1.1]) (cs := [w8 cA a1 v1, w8 cA a0.2.2.2.2.1 v0.2.2.1]) (rs := [[(a0.1, .inr (3, [.ref a0.2.1, .int (3 : Int32), .int v0.2.2.2.2.2]))], [(a0.2.1, .inl (cR, 4, .inr (.inr (.inr (.inr (rg a0))))))], w8 cA a0.2.2.1 v0.1, w8 cA a0.2.2.2.1 v0.2.1, w8 cA a0.2.2.2.2.2 v0.2.2.2.1]) (cs1 := [w8 cA a1 o5, w8 cA a0.2.2.2.2.1 v0.2.2.1]) (bs1 := [[(a0.1, .inr (3, [.ref a0.2.1, .int (3 : Int32), .int v0.2.2.2.2.2]))], [(a0.2.1, .inl (cR, 4, .inr (.inr (.inr (.inr (rg a0))))))], w8 cA a0.2.2.1 v0.1, w8 cA a0.2.2.2.1 v0.2.1, w8 cA a0.2.2.2.2.1 v0.2.2.1, w8 cA a0.2.2.2.2.2 v0.2.2.2.1, w8 cA a1 o5]) (rest := []) (st1 := []) ⟨hx, hb, hml, hown, hts⟩ hz hw hA (mX8_copyFrom l D cA cR a1 v1 a0.2.2.2.2.1 v0.2.2.1 o5 hso5) gX3_restore_X8_copyFrom rfl rfl rfl (by decide +kernel) rfl ⟨Nat.le_of_ble_eq_true rfl, Nat.le_of_ble_eq_true rfl⟩ rfl rfl hl.1 rfl (Nat.le_of_ble_eq_true rfl) dX3_restore_43 ⟨Nat.le_of_ble_eq_true rfl, Nat.le_of_ble_eq_true rfl⟩ [6, 4] [0, 1, 2, 3, 5] [0, 1, 2, 3, 6, 4, 5] rfl rfl rfl rfl rfl rfl (fun H locs hw => ?_)
    refine lv_aload_n hx hb dX3_restore_46 rfl (lv_at hl 2 rfl) ?_
    refine lv_iload_n hx hb dX3_restore_47 rfl (lv_at hl 1 rfl) ?_
    refine k_put (ci := 3) (v := .int (2 : Int32)) (ty := .int) (C := RX3) (T := TX3) (N := 3) (bs1 := [[(a0.1, .inr (3, [.ref a0.2.1, .int (2 : Int32), .int v0.2.2.2.2.2]))], [(a0.2.1, .inl (cR, 4, .inr (.inr (.inr (.inr (rg a0))))))], w8 cA a0.2.2.1 v0.1, w8 cA a0.2.2.2.1 v0.2.1, w8 cA a0.2.2.2.2.1 v0.2.2.1, w8 cA a0.2.2.2.2.2 v0.2.2.2.1, w8 cA a1 o5]) hx hb hts hown hz hw (by decide +kernel) tyX3 tyX3_ok nmX3 0 rfl rfl 1 (by decide) (hts (.fieldLink RX3 18 "OccupancyMonitor$History" "next" "I") (by decide +kernel)) (fun _ h9 => h9) rfl (by decide +kernel) rfl rfl (Nat.le_of_ble_eq_true rfl) dX3_restore_48 rfl (fun H locs hw => ?_)
    refine lv_aload_n hx hb dX3_restore_51 rfl (lv_at hl 2 rfl) ?_
    refine lv_dup hx hb dX3_restore_52 rfl ?_
    refine k_get (ci := 3) (v := .int v0.2.2.2.2.2) (C := RX3) (T := TX3) (N := 3) hx hb hts hown hz hw (by decide +kernel) 0 rfl rfl 2 (by decide) (hts (.fieldLink RX3 30 "OccupancyMonitor$History" "count" "I") (by decide +kernel)) (fun _ h9 => h9) rfl dX3_restore_53 ?_
    refine lv_iconst (v := 1) hx hb dX3_restore_56 (by decide) ?_
    refine lv_isub hx hb dX3_restore_57 ?_
    refine k_put (ci := 3) (v := .int (v0.2.2.2.2.2 - (1 : Int32))) (ty := .int) (C := RX3) (T := TX3) (N := 3) (bs1 := [[(a0.1, .inr (3, [.ref a0.2.1, .int (2 : Int32), .int (v0.2.2.2.2.2 - (1 : Int32))]))], [(a0.2.1, .inl (cR, 4, .inr (.inr (.inr (.inr (rg a0))))))], w8 cA a0.2.2.1 v0.1, w8 cA a0.2.2.2.1 v0.2.1, w8 cA a0.2.2.2.2.1 v0.2.2.1, w8 cA a0.2.2.2.2.2 v0.2.2.2.1, w8 cA a1 o5]) hx hb hts hown hz hw (by decide +kernel) tyX3 tyX3_ok nmX3 0 rfl rfl 2 (by decide) (hts (.fieldLink RX3 30 "OccupancyMonitor$History" "count" "I") (by decide +kernel)) (fun _ h9 => h9) rfl (by decide +kernel) rfl rfl (Nat.le_of_ble_eq_true rfl) dX3_restore_58 rfl (fun H locs hw => ?_)
    have hsp := Option.some.inj hsp
    subst hsp
    have hw : ww A s.heap D [w3 cA cR a0 (v0.1, v0.2.1, v0.2.2.1, v0.2.2.2.1, (2 : Int32), (v0.2.2.2.2.2 - (1 : Int32))), w8 cA a1 o5] H locs := hw
    subst hQ
    exact k_vret hx hb hr hlk hw dX3_restore_61

noncomputable def sX3_restore (v0 : V3) (v1 : V8) : Option (V3 × V8) := (if v0.2.2.2.2.1 = 0 then sX3_restore_0 v0 v1 else (if v0.2.2.2.2.1 = 1 then sX3_restore_1 v0 v1 else (if v0.2.2.2.2.1 = 2 then sX3_restore_2 v0 v1 else (if v0.2.2.2.2.1 = 3 then sX3_restore_3 v0 v1 else none))))
abbrev rX3_restore : Room := { frames := 4, cells := 0, slots := 0, locals := 89 }
theorem mX3_restore (l : Launch) (D : va_G) (cA cR : ClassId) (a0 : A3) (v0 : V3) (a1 : A8) (v1 : V8) (o : V3 × V8) (hsp : sX3_restore v0 v1 = some o) : MI l yX3_restore wsX3_restore rX3_restore D cA cR [.ref a0.1, .ref a1.1] [w3 cA cR a0 v0, w8 cA a1 v1] none [w3 cA cR a0 o.1, w8 cA a1 o.2] 0 0 := by
  have hsp : (if v0.2.2.2.2.1 = 0 then sX3_restore_0 v0 v1 else (if v0.2.2.2.2.1 = 1 then sX3_restore_1 v0 v1 else (if v0.2.2.2.2.1 = 2 then sX3_restore_2 v0 v1 else (if v0.2.2.2.2.1 = 3 then sX3_restore_3 v0 v1 else none)))) = some o := hsp
  obtain ⟨t0, t1, t2, t3, nx, ct⟩ := v0
  by_cases h0 : nx = 0
  · have hsp := ift (show (t0, t1, t2, t3, nx, ct).2.2.2.2.1 = 0 from h0) hsp
    subst h0
    exact mX3_restore_0 l D cA cR a0 _ a1 v1 o hsp
  have hsp := iff_ (show ¬ (t0, t1, t2, t3, nx, ct).2.2.2.2.1 = 0 from h0) hsp
  by_cases h1 : nx = 1
  · have hsp := ift (show (t0, t1, t2, t3, nx, ct).2.2.2.2.1 = 1 from h1) hsp
    subst h1
    exact mX3_restore_1 l D cA cR a0 _ a1 v1 o hsp
  have hsp := iff_ (show ¬ (t0, t1, t2, t3, nx, ct).2.2.2.2.1 = 1 from h1) hsp
  by_cases h2 : nx = 2
  · have hsp := ift (show (t0, t1, t2, t3, nx, ct).2.2.2.2.1 = 2 from h2) hsp
    subst h2
    exact mX3_restore_2 l D cA cR a0 _ a1 v1 o hsp
  have hsp := iff_ (show ¬ (t0, t1, t2, t3, nx, ct).2.2.2.2.1 = 2 from h2) hsp
  by_cases h3 : nx = 3
  · have hsp := ift (show (t0, t1, t2, t3, nx, ct).2.2.2.2.1 = 3 from h3) hsp
    subst h3
    exact mX3_restore_3 l D cA cR a0 _ a1 v1 o hsp
  have hsp := iff_ (show ¬ (t0, t1, t2, t3, nx, ct).2.2.2.2.1 = 3 from h3) hsp
  cases hsp
