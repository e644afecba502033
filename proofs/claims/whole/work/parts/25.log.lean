noncomputable def sX2_clear (N : Nat) (v0 : V2) : Option (V2) := ((sX9_fill N v0.2.2.1 (-1 : Int32)).bind (fun o1 => (some (v0.1, v0.2.1, o1, (0 : Int32)))))
abbrev rX2_clear : Room := { frames := 2, cells := 0, slots := 0, locals := 44 }
set_option maxHeartbeats 4000000 in
set_option maxRecDepth 100000 in
theorem mX2_clear (l : Launch) (D : va_G) (cA cR : ClassId) (N : Nat) (a0 : A2) (v0 : V2) (o : V2) (hsp : sX2_clear N v0 = some o) : MI l yX2_clear wsX2_clear rX2_clear D cA cR [.ref a0.1] [w2 cA a0 v0] none [w2 cA a0 o] 0 0 := by
  have hsp : ((sX9_fill N v0.2.2.1 (-1 : Int32)).bind (fun o1 => (some (v0.1, v0.2.1, o1, (0 : Int32))))) = some o := hsp
  refine MI.ofW (cc := cX2_clear) (maxL := 1) (ret := none) (by decide) rfl (Nat.le_of_ble_eq_true rfl) ?_
  intro p e s m args below meth c A ls Q H locs hx hb hr hlk hml hown hnm hts hz hA hQ hw hl
  have hl : lv_has ls 1 [(0, .ref a0.1)] := hl
  have hw : ww A s.heap D [[(a0.1, .inr (2, [.ref a0.2.1.1, .ref a0.2.2.1, .ref a0.2.2.2.1, .int v0.2.2.2]))], w9 cA a0.2.1 v0.1, [(a0.2.2.1, .inl (cA, v0.2.1.1, .inl v0.2.1.2))], w9 cA a0.2.2.2 v0.2.2.1] H locs := hw
  refine lv_aload_n hx hb dX2_clear_0 rfl (lv_at hl 0 rfl) ?_
  refine lv_iconst (v := 0) hx hb dX2_clear_1 (by decide) ?_
  refine k_put (ci := 2) (v := .int (0 : Int32)) (ty := .int) (C := RX2) (T := TX2) (N := 4) (bs1 := [[(a0.1, .inr (2, [.ref a0.2.1.1, .ref a0.2.2.1, .ref a0.2.2.2.1, .int (0 : Int32)]))], w9 cA a0.2.1 v0.1, [(a0.2.2.1, .inl (cA, v0.2.1.1, .inl v0.2.1.2))], w9 cA a0.2.2.2 v0.2.2.1]) hx hb hts hown hz hw (by decide +kernel) tyX2 tyX2_ok nmX2 0 rfl rfl 3 (by decide) (hts (.fieldLink RX2 31 "OccupancyMonitor$EventLog" "count" "I") (by decide +kernel)) (fun _ h9 => h9) rfl (by decide +kernel) rfl rfl (Nat.le_of_ble_eq_true rfl) dX2_clear_2 rfl (fun H locs hw => ?_)
  refine lv_aload_n hx hb dX2_clear_5 rfl (lv_at hl 0 rfl) ?_
  refine k_get (ci := 2) (v := .ref a0.2.2.2.1) (C := RX2) (T := TX2) (N := 4) hx hb hts hown hz hw (by decide +kernel) 0 rfl rfl 2 (by decide) (hts (.fieldLink RX2 24 "OccupancyMonitor$EventLog" "openSlots" "LOccupancyMonitor$Table;") (by decide +kernel)) (fun _ h9 => h9) rfl dX2_clear_6 ?_
  refine lv_iconst (v := -1) hx hb dX2_clear_9 (by decide) ?_
  obtain ⟨o1, hso1, hsp⟩ := bnd_of hsp
  refine k_callV (ci := 9) (C := RX9) (T := TX9) (N := 3) (nA := 1) (As := [.int (-1 : Int32)]) (cs := [w9 cA a0.2.2.2 v0.2.2.1]) (rs := [[(a0.1, .inr (2, [.ref a0.2.1.1, .ref a0.2.2.1, .ref a0.2.2.2.1, .int (0 : Int32)]))], w9 cA a0.2.1 v0.1, [(a0.2.2.1, .inl (cA, v0.2.1.1, .inl v0.2.1.2))]]) (cs1 := [w9 cA a0.2.2.2 o1]) (bs1 := [[(a0.1, .inr (2, [.ref a0.2.1.1, .ref a0.2.2.1, .ref a0.2.2.2.1, .int (0 : Int32)]))], w9 cA a0.2.1 v0.1, [(a0.2.2.1, .inl (cA, v0.2.1.1, .inl v0.2.1.2))], w9 cA a0.2.2.2 o1]) (rest := []) (st1 := []) ⟨hx, hb, hml, hown, hts⟩ hz hw hA (mX9_fill l D cA cR N a0.2.2.2 v0.2.2.1 (-1 : Int32) o1 hso1) gX2_clear_X9_fill rfl rfl rfl (by decide +kernel) rfl ⟨Nat.le_of_ble_eq_true rfl, Nat.le_of_ble_eq_true rfl⟩ rfl rfl hl.1 rfl (Nat.le_of_ble_eq_true rfl) dX2_clear_10 ⟨Nat.le_of_ble_eq_true rfl, Nat.le_of_ble_eq_true rfl⟩ [3] [0, 1, 2] [0, 1, 2, 3] rfl rfl rfl rfl rfl rfl (fun H locs hw => ?_)
  have hsp := Option.some.inj hsp
  subst hsp
  have hw : ww A s.heap D [w2 cA a0 (v0.1, v0.2.1, o1, (0 : Int32))] H locs := hw
  subst hQ
  exact k_vret hx hb hr hlk hw dX2_clear_13
noncomputable def sX2_read (v0 : V2) (p1 : Int32) (p2 : Int32) : Option (Int32) := ((sX10_within p1 (nI v0.2.1.1)).bind (fun o1 => (if o1 = 0 then (some (-1 : Int32)) else (grd (vp_in p1 v0.2.1.1) ((sX9_get v0.1 (v0.2.1.2 p1.toNatClampNeg) p2).bind (fun o4 => (some o4)))))))
abbrev rX2_read : Room := { frames := 1, cells := 0, slots := 0, locals := 22 }
set_option maxHeartbeats 4000000 in
set_option maxRecDepth 100000 in
theorem mX2_read (l : Launch) (D : va_G) (cA cR : ClassId) (a0 : A2) (v0 : V2) (p1 : Int32) (p2 : Int32) (o : Int32) (hsp : sX2_read v0 p1 p2 = some o) : MI l yX2_read wsX2_read rX2_read D cA cR [.ref a0.1, .int p1, .int p2] [w2 cA a0 v0] (some (.int o)) [w2 cA a0 v0] 0 0 := by
  have hsp : ((sX10_within p1 (nI v0.2.1.1)).bind (fun o1 => (if o1 = 0 then (some (-1 : Int32)) else (grd (vp_in p1 v0.2.1.1) ((sX9_get v0.1 (v0.2.1.2 p1.toNatClampNeg) p2).bind (fun o4 => (some o4))))))) = some o := hsp
  refine MI.ofW (cc := cX2_read) (maxL := 3) (ret := (some .int)) (by decide) rfl (Nat.le_of_ble_eq_true rfl) ?_
  intro p e s m args below meth c A ls Q H locs hx hb hr hlk hml hown hnm hts hz hA hQ hw hl
  have hl : lv_has ls 3 [(0, .ref a0.1), (1, .int p1), (2, .int p2)] := hl
  have hw : ww A s.heap D [[(a0.1, .inr (2, [.ref a0.2.1.1, .ref a0.2.2.1, .ref a0.2.2.2.1, .int v0.2.2.2]))], w9 cA a0.2.1 v0.1, [(a0.2.2.1, .inl (cA, v0.2.1.1, .inl v0.2.1.2))], w9 cA a0.2.2.2 v0.2.2.1] H locs := hw
  refine lv_iload_n hx hb dX2_read_0 rfl (lv_at hl 1 rfl) ?_
  refine lv_aload_n hx hb dX2_read_1 rfl (lv_at hl 0 rfl) ?_
  refine k_get (ci := 2) (v := .ref a0.2.2.1) (C := RX2) (T := TX2) (N := 4) hx hb hts hown hz hw (by decide +kernel) 0 rfl rfl 1 (by decide) (hts (.fieldLink RX2 20 "OccupancyMonitor$EventLog" "order" "[I") (by decide +kernel)) (fun _ h9 => h9) rfl dX2_read_2 ?_
  refine k_alen hx hb hz hw 2 rfl dX2_read_5 ?_
  obtain ⟨o1, hso1, hsp⟩ := bnd_of hsp
  refine k_callSN (nA := 2) (As := [.int p1, .int (nI v0.2.1.1)]) (host := "OccupancyMonitor") (cs := []) (rs := [[(a0.1, .inr (2, [.ref a0.2.1.1, .ref a0.2.2.1, .ref a0.2.2.2.1, .int v0.2.2.2]))], w9 cA a0.2.1 v0.1, [(a0.2.2.1, .inl (cA, v0.2.1.1, .inl v0.2.1.2))], w9 cA a0.2.2.2 v0.2.2.1]) (cs1 := []) (bs1 := [[(a0.1, .inr (2, [.ref a0.2.1.1, .ref a0.2.2.1, .ref a0.2.2.2.1, .int v0.2.2.2]))], w9 cA a0.2.1 v0.1, [(a0.2.2.1, .inl (cA, v0.2.1.1, .inl v0.2.1.2))], w9 cA a0.2.2.2 v0.2.2.1]) (rest := []) (st1 := [.int o1]) ⟨hx, hb, hml, hown, hts⟩ hz hw hA (mX10_within l D cA cR p1 (nI v0.2.1.1) o1 hso1) gX2_read_X10_within_n35 rfl rfl rfl (by decide +kernel) (by decide +kernel) (by decide +kernel) (by decide +kernel) rfl ⟨Nat.le_of_ble_eq_true rfl, Nat.le_of_ble_eq_true rfl⟩ hl.1 rfl (Nat.le_of_ble_eq_true rfl) dX2_read_6 ⟨Nat.le_of_ble_eq_true rfl, Nat.le_of_ble_eq_true rfl⟩ [] [0, 1, 2, 3] [0, 1, 2, 3] rfl rfl rfl rfl rfl rfl (fun H locs hw => ?_)
  refine lv_if_eq (tgt := 29) hx hb dX2_read_9 (by decide) (fun c2 => ?_) (fun c2 => ?_)
  · have hsp := ift c2 hsp
    refine lv_iconst (v := -1) hx hb dX2_read_29 (by decide) ?_
    have hsp := Option.some.inj hsp
    subst hsp
    have hw : ww A s.heap D [w2 cA a0 v0] H locs := hw
    subst hQ
    exact k_iret hx hb hr hlk hw dX2_read_30
  · have hsp := iff_ c2 hsp
    refine lv_aload_n hx hb dX2_read_12 rfl (lv_at hl 0 rfl) ?_
    refine k_get (ci := 2) (v := .ref a0.2.1.1) (C := RX2) (T := TX2) (N := 4) hx hb hts hown hz hw (by decide +kernel) 0 rfl rfl 0 (by decide) (hts (.fieldLink RX2 14 "OccupancyMonitor$EventLog" "slots" "LOccupancyMonitor$Table;") (by decide +kernel)) (fun _ h9 => h9) rfl dX2_read_13 ?_
    refine lv_aload_n hx hb dX2_read_16 rfl (lv_at hl 0 rfl) ?_
    refine k_get (ci := 2) (v := .ref a0.2.2.1) (C := RX2) (T := TX2) (N := 4) hx hb hts hown hz hw (by decide +kernel) 0 rfl rfl 1 (by decide) (hts (.fieldLink RX2 20 "OccupancyMonitor$EventLog" "order" "[I") (by decide +kernel)) (fun _ h9 => h9) rfl dX2_read_17 ?_
    refine lv_iload_n hx hb dX2_read_20 rfl (lv_at hl 1 rfl) ?_
    obtain ⟨g3, hsp⟩ := grd_of hsp
    refine k_iald hx hb hz hw 2 rfl g3 dX2_read_21 ?_
    refine lv_iload_n hx hb dX2_read_22 rfl (lv_at hl 2 rfl) ?_
    obtain ⟨o4, hso4, hsp⟩ := bnd_of hsp
    refine k_callV (ci := 9) (C := RX9) (T := TX9) (N := 3) (nA := 2) (As := [.int (v0.2.1.2 p1.toNatClampNeg), .int p2]) (cs := [w9 cA a0.2.1 v0.1]) (rs := [[(a0.1, .inr (2, [.ref a0.2.1.1, .ref a0.2.2.1, .ref a0.2.2.2.1, .int v0.2.2.2]))], [(a0.2.2.1, .inl (cA, v0.2.1.1, .inl v0.2.1.2))], w9 cA a0.2.2.2 v0.2.2.1]) (cs1 := [w9 cA a0.2.1 v0.1]) (bs1 := [[(a0.1, .inr (2, [.ref a0.2.1.1, .ref a0.2.2.1, .ref a0.2.2.2.1, .int v0.2.2.2]))], w9 cA a0.2.1 v0.1, [(a0.2.2.1, .inl (cA, v0.2.1.1, .inl v0.2.1.2))], w9 cA a0.2.2.2 v0.2.2.1]) (rest := []) (st1 := [.int o4]) ⟨hx, hb, hml, hown, hts⟩ hz hw hA (mX9_get l D cA cR a0.2.1 v0.1 (v0.2.1.2 p1.toNatClampNeg) p2 o4 hso4) gX2_read_X9_get rfl rfl rfl (by decide +kernel) rfl ⟨Nat.le_of_ble_eq_true rfl, Nat.le_of_ble_eq_true rfl⟩ rfl rfl hl.1 rfl (Nat.le_of_ble_eq_true rfl) dX2_read_23 ⟨Nat.le_of_ble_eq_true rfl, Nat.le_of_ble_eq_true rfl⟩ [1] [0, 2, 3] [0, 3, 1, 2] rfl rfl rfl rfl rfl rfl (fun H locs hw => ?_)
    refine lv_goto (tgt := 30) hx hb dX2_read_26 (by decide) ?_
    have hsp := Option.some.inj hsp
    subst hsp
    have hw : ww A s.heap D [w2 cA a0 v0] H locs := hw
    subst hQ
    exact k_iret hx hb hr hlk hw dX2_read_30
noncomputable def qX2_dropIfFull_19 (v0 : V2) : Nat → Int32 → Option ((Int32 × Int32) ⊕ (Int32))
  | 0, _ => none
  | n19 + 1, z19_0 => (if ((nI v0.2.1.1) - (1 : Int32)) < z19_0 then (some (.inr z19_0)) else (grd (vp_in z19_0 v0.2.1.1) ((sX9_get v0.1 (v0.2.1.2 z19_0.toNatClampNeg) (4 : Int32)).bind (fun o13 => (if o13 = 0 then (some (.inl ((v0.2.1.2 z19_0.toNatClampNeg), z19_0))) else (qX2_dropIfFull_19 v0 n19 (z19_0 + 1)))))))
noncomputable def sX2_dropIfFull (N : Nat) (v0 : V2) : Option (V2) := (if ((nI v0.2.1.1) - (1 : Int32)) < v0.2.2.2 then ((qX2_dropIfFull_19 v0 N (0 : Int32)).bind (fun o10 => eli o10 (fun y43 => (grd (acok (y43.2 + (1 : Int32)) y43.2 (((nI v0.2.1.1) - (1 : Int32)) - y43.2) v0.2.1.1 v0.2.1.1) (lt_ (va_cpy v0.2.1.2 v0.2.1.2 (y43.2 + (1 : Int32)).toNatClampNeg y43.2.toNatClampNeg (((nI v0.2.1.1) - (1 : Int32)) - y43.2).toNatClampNeg) (fun f15 => (grd (vp_in ((nI v0.2.1.1) - (1 : Int32)) v0.2.1.1) (lt_ (upd f15 ((nI v0.2.1.1) - (1 : Int32)).toNatClampNeg y43.1) (fun f18 => (some (v0.1, (v0.2.1.1, f18), v0.2.2.1, ((nI v0.2.1.1) - (1 : Int32))))))))))) (fun y80 => (some v0)))) else (some v0))
abbrev rX2_dropIfFull : Room := { frames := 1, cells := 0, slots := 0, locals := 26 }
set_option maxHeartbeats 4000000 in
set_option maxRecDepth 100000 in
theorem mX2_dropIfFull (l : Launch) (D : va_G) (cA cR : ClassId) (N : Nat) (a0 : A2) (v0 : V2) (o : V2) (hsp : sX2_dropIfFull N v0 = some o) : MI l yX2_dropIfFull wsX2_dropIfFull rX2_dropIfFull D cA cR [.ref a0.1] [w2 cA a0 v0] none [w2 cA a0 o] 0 0 := by
  have hsp : (if ((nI v0.2.1.1) - (1 : Int32)) < v0.2.2.2 then ((qX2_dropIfFull_19 v0 N (0 : Int32)).bind (fun o10 => eli o10 (fun y43 => (grd (acok (y43.2 + (1 : Int32)) y43.2 (((nI v0.2.1.1) - (1 : Int32)) - y43.2) v0.2.1.1 v0.2.1.1) (lt_ (va_cpy v0.2.1.2 v0.2.1.2 (y43.2 + (1 : Int32)).toNatClampNeg y43.2.toNatClampNeg (((nI v0.2.1.1) - (1 : Int32)) - y43.2).toNatClampNeg) (fun f15 => (grd (vp_in ((nI v0.2.1.1) - (1 : Int32)) v0.2.1.1) (lt_ (upd f15 ((nI v0.2.1.1) - (1 : Int32)).toNatClampNeg y43.1) (fun f18 => (some (v0.1, (v0.2.1.1, f18), v0.2.2.1, ((nI v0.2.1.1) - (1 : Int32))))))))))) (fun y80 => (some v0)))) else (some v0)) = some o := hsp
  refine MI.ofW (cc := cX2_dropIfFull) (maxL := 4) (ret := none) (by decide) rfl (Nat.le_of_ble_eq_true rfl) ?_
  intro p e s m args below meth c A ls Q H locs hx hb hr hlk hml hown hnm hts hz hA hQ hw hl
  have hl : lv_has ls 4 [(0, .ref a0.1)] := hl
  have hw : ww A s.heap D [[(a0.1, .inr (2, [.ref a0.2.1.1, .ref a0.2.2.1, .ref a0.2.2.2.1, .int v0.2.2.2]))], w9 cA a0.2.1 v0.1, [(a0.2.2.1, .inl (cA, v0.2.1.1, .inl v0.2.1.2))], w9 cA a0.2.2.2 v0.2.2.1] H locs := hw
  refine lv_aload_n hx hb dX2_dropIfFull_0 rfl (lv_at hl 0 rfl) ?_
  refine k_get (ci := 2) (v := .ref a0.2.2.1) (C := RX2) (T := TX2) (N := 4) hx hb hts hown hz hw (by decide +kernel) 0 rfl rfl 1 (by decide) (hts (.fieldLink RX2 20 "OccupancyMonitor$EventLog" "order" "[I") (by decide +kernel)) (fun _ h9 => h9) rfl dX2_dropIfFull_1 ?_
  refine k_alen hx hb hz hw 2 rfl dX2_dropIfFull_4 ?_
  refine lv_iconst (v := 1) hx hb dX2_dropIfFull_5 (by decide) ?_
  refine lv_isub hx hb dX2_dropIfFull_6 ?_
  refine lv_istore_n (lv' := [(1, .int ((nI v0.2.1.1) - (1 : Int32))), (0, .ref a0.1)]) hx hb dX2_dropIfFull_7 rfl hl (by decide) rfl (fun ls hl => ?_)
  refine lv_aload_n hx hb dX2_dropIfFull_8 rfl (lv_at hl 1 rfl) ?_
  refine k_get (ci := 2) (v := .int v0.2.2.2) (C := RX2) (T := TX2) (N := 4) hx hb hts hown hz hw (by decide +kernel) 0 rfl rfl 3 (by decide) (hts (.fieldLink RX2 31 "OccupancyMonitor$EventLog" "count" "I") (by decide +kernel)) (fun _ h9 => h9) rfl dX2_dropIfFull_9 ?_
  refine lv_iload_n hx hb dX2_dropIfFull_12 rfl (lv_at hl 0 rfl) ?_
  refine lv_icmp_gt (tgt := 17) hx hb dX2_dropIfFull_13 (by decide) (fun c1 => ?_) (fun c1 => ?_)
  · have hsp := ift c1 hsp
    refine lv_iconst (v := 0) hx hb dX2_dropIfFull_17 (by decide) ?_
    refine lv_istore_n (lv' := [(2, .int (0 : Int32)), (1, .int ((nI v0.2.1.1) - (1 : Int32))), (0, .ref a0.1)]) hx hb dX2_dropIfFull_18 rfl hl (by decide) rfl (fun ls hl => ?_)
    have L19 : ∀ (n19 : Nat) (z19_0 : Int32) (o10 : (Int32 × Int32) ⊕ (Int32)), qX2_dropIfFull_19 v0 n19 z19_0 = some o10 → ∀ (H : Heap) (locs : List Loc) (ls : Array Slot), ww A s.heap D [[(a0.1, .inr (2, [.ref a0.2.1.1, .ref a0.2.2.1, .ref a0.2.2.2.1, .int v0.2.2.2]))], w9 cA a0.2.1 v0.1, [(a0.2.2.1, .inl (cA, v0.2.1.1, .inl v0.2.1.2))], w9 cA a0.2.2.2 v0.2.2.1] H locs → lv_has ls 4 [(0, .ref a0.1), (1, .int ((nI v0.2.1.1) - (1 : Int32))), (2, .int z19_0)] → (∀ (y43 : Int32 × Int32), o10 = (.inl y43) → ∀ (H : Heap) (locs : List Loc) (ls : Array Slot), ww A s.heap D [[(a0.1, .inr (2, [.ref a0.2.1.1, .ref a0.2.2.1, .ref a0.2.2.2.1, .int v0.2.2.2]))], w9 cA a0.2.1 v0.1, [(a0.2.2.1, .inl (cA, v0.2.1.1, .inl v0.2.1.2))], w9 cA a0.2.2.2 v0.2.2.1] H locs → lv_has ls 4 [(0, .ref a0.1), (1, .int ((nI v0.2.1.1) - (1 : Int32))), (2, .int y43.2), (3, .int y43.1)] → W p l e rX2_dropIfFull s m args below meth c H locs 0 0 Q (F0 m 43 ls [])) → (∀ (y80 : Int32), o10 = (.inr y80) → ∀ (H : Heap) (locs : List Loc) (ls : Array Slot), ww A s.heap D [[(a0.1, .inr (2, [.ref a0.2.1.1, .ref a0.2.2.1, .ref a0.2.2.2.1, .int v0.2.2.2]))], w9 cA a0.2.1 v0.1, [(a0.2.2.1, .inl (cA, v0.2.1.1, .inl v0.2.1.2))], w9 cA a0.2.2.2 v0.2.2.1] H locs → lv_has ls 4 [(0, .ref a0.1), (1, .int ((nI v0.2.1.1) - (1 : Int32))), (2, .int y80)] → W p l e rX2_dropIfFull s m args below meth c H locs 0 0 Q (F0 m 80 ls [])) → W p l e rX2_dropIfFull s m args below meth c H locs 0 0 Q (F0 m 19 ls []) := by
      intro n19
      induction n19 with
      | zero => intro z19_0 o10 hsp; cases hsp
      | succ n19 ih19 =>
        intro z19_0 o10 hsp H locs ls hw hl kx19_43 kx19_80
        have hsp : (if ((nI v0.2.1.1) - (1 : Int32)) < z19_0 then (some (.inr z19_0)) else (grd (vp_in z19_0 v0.2.1.1) ((sX9_get v0.1 (v0.2.1.2 z19_0.toNatClampNeg) (4 : Int32)).bind (fun o13 => (if o13 = 0 then (some (.inl ((v0.2.1.2 z19_0.toNatClampNeg), z19_0))) else (qX2_dropIfFull_19 v0 n19 (z19_0 + 1))))))) = some o10 := hsp
        refine lv_iload_n hx hb dX2_dropIfFull_19 rfl (lv_at hl 2 rfl) ?_
        refine lv_iload_n hx hb dX2_dropIfFull_20 rfl (lv_at hl 1 rfl) ?_
        refine lv_icmp_gt (tgt := 80) hx hb dX2_dropIfFull_21 (by decide) (fun c11 => ?_) (fun c11 => ?_)
        · have hsp := ift c11 hsp
          have hsp := Option.some.inj hsp
          subst hsp
          exact kx19_80 _ rfl _ _ _ hw (lv_sub hl [0, 1, 2] rfl)
        · have hsp := iff_ c11 hsp
          refine lv_aload_n hx hb dX2_dropIfFull_24 rfl (lv_at hl 0 rfl) ?_
          refine k_get (ci := 2) (v := .ref a0.2.2.1) (C := RX2) (T := TX2) (N := 4) hx hb hts hown hz hw (by decide +kernel) 0 rfl rfl 1 (by decide) (hts (.fieldLink RX2 20 "OccupancyMonitor$EventLog" "order" "[I") (by decide +kernel)) (fun _ h9 => h9) rfl dX2_dropIfFull_25 ?_
          refine lv_iload_n hx hb dX2_dropIfFull_28 rfl (lv_at hl 2 rfl) ?_
          obtain ⟨g12, hsp⟩ := grd_of hsp
          refine k_iald hx hb hz hw 2 rfl g12 dX2_dropIfFull_29 ?_
          refine lv_istore_n (lv' := [(3, .int (v0.2.1.2 z19_0.toNatClampNeg)), (0, .ref a0.1), (1, .int ((nI v0.2.1.1) - (1 : Int32))), (2, .int z19_0)]) hx hb dX2_dropIfFull_30 rfl hl (by decide) rfl (fun ls hl => ?_)
          refine lv_aload_n hx hb dX2_dropIfFull_31 rfl (lv_at hl 1 rfl) ?_
          refine k_get (ci := 2) (v := .ref a0.2.1.1) (C := RX2) (T := TX2) (N := 4) hx hb hts hown hz hw (by decide +kernel) 0 rfl rfl 0 (by decide) (hts (.fieldLink RX2 14 "OccupancyMonitor$EventLog" "slots" "LOccupancyMonitor$Table;") (by decide +kernel)) (fun _ h9 => h9) rfl dX2_dropIfFull_32 ?_
          refine lv_iload_n hx hb dX2_dropIfFull_35 rfl (lv_at hl 0 rfl) ?_
          refine lv_iconst (v := 4) hx hb dX2_dropIfFull_36 (by decide) ?_
          obtain ⟨o13, hso13, hsp⟩ := bnd_of hsp
          refine k_callV (ci := 9) (C := RX9) (T := TX9) (N := 3) (nA := 2) (As := [.int (v0.2.1.2 z19_0.toNatClampNeg), .int (4 : Int32)]) (cs := [w9 cA a0.2.1 v0.1]) (rs := [[(a0.1, .inr (2, [.ref a0.2.1.1, .ref a0.2.2.1, .ref a0.2.2.2.1, .int v0.2.2.2]))], [(a0.2.2.1, .inl (cA, v0.2.1.1, .inl v0.2.1.2))], w9 cA a0.2.2.2 v0.2.2.1]) (cs1 := [w9 cA a0.2.1 v0.1]) (bs1 := [[(a0.1, .inr (2, [.ref a0.2.1.1, .ref a0.2.2.1, .ref a0.2.2.2.1, .int v0.2.2.2]))], w9 cA a0.2.1 v0.1, [(a0.2.2.1, .inl (cA, v0.2.1.1, .inl v0.2.1.2))], w9 cA a0.2.2.2 v0.2.2.1]) (rest := []) (st1 := [.int o13]) ⟨hx, hb, hml, hown, hts⟩ hz hw hA (mX9_get l D cA cR a0.2.1 v0.1 (v0.2.1.2 z19_0.toNatClampNeg) (4 : Int32) o13 hso13) gX2_dropIfFull_X9_get rfl rfl rfl (by decide +kernel) rfl ⟨Nat.le_of_ble_eq_true rfl, Nat.le_of_ble_eq_true rfl⟩ rfl rfl hl.1 rfl (Nat.le_of_ble_eq_true rfl) dX2_dropIfFull_37 ⟨Nat.le_of_ble_eq_true rfl, Nat.le_of_ble_eq_true rfl⟩ [1] [0, 2, 3] [0, 3, 1, 2] rfl rfl rfl rfl rfl rfl (fun H locs hw => ?_)
          refine lv_if_ne (tgt := 74) hx hb dX2_dropIfFull_40 (by decide) (fun c14 => ?_) (fun c14 => ?_)
          · have hsp := iff_ c14 hsp
            refine lv_iinc (v := (z19_0 + 1)) (lv' := [(2, .int (z19_0 + 1)), (3, .int (v0.2.1.2 z19_0.toNatClampNeg)), (0, .ref a0.1), (1, .int ((nI v0.2.1.1) - (1 : Int32)))]) hx hb dX2_dropIfFull_74 hl (k := 3) rfl rfl (by decide) rfl (fun ls hl => ?_)
            refine lv_goto (tgt := 19) hx hb dX2_dropIfFull_77 (by decide) ?_
            exact ih19 (z19_0 + 1) _ hsp _ _ _ hw (lv_sub hl [2, 3, 0] rfl) kx19_43 kx19_80
          · have hsp := ift c14 hsp
            have hsp := Option.some.inj hsp
            subst hsp
            exact kx19_43 _ rfl _ _ _ hw (lv_sub hl [1, 2, 3, 0] rfl)
    obtain ⟨o10, hso10, hsp⟩ := bnd_of hsp
    refine L19 N (0 : Int32) _ hso10 _ _ _ hw (lv_sub hl [2, 1, 0] rfl) (fun y43 hy43 H locs ls hw hl => ?_) (fun y80 hy80 H locs ls hw hl => ?_)
    · subst hy43
      have hsp := eli_l hsp
      refine lv_aload_n hx hb dX2_dropIfFull_43 rfl (lv_at hl 0 rfl) ?_
      refine k_get (ci := 2) (v := .ref a0.2.2.1) (C := RX2) (T := TX2) (N := 4) hx hb hts hown hz hw (by decide +kernel) 0 rfl rfl 1 (by decide) (hts (.fieldLink RX2 20 "OccupancyMonitor$EventLog" "order" "[I") (by decide +kernel)) (fun _ h9 => h9) rfl dX2_dropIfFull_44 ?_
      refine lv_iload_n hx hb dX2_dropIfFull_47 rfl (lv_at hl 2 rfl) ?_
      refine lv_iconst (v := 1) hx hb dX2_dropIfFull_48 (by decide) ?_
      refine lv_iadd hx hb dX2_dropIfFull_49 ?_
      refine lv_aload_n hx hb dX2_dropIfFull_50 rfl (lv_at hl 0 rfl) ?_
      refine k_get (ci := 2) (v := .ref a0.2.2.1) (C := RX2) (T := TX2) (N := 4) hx hb hts hown hz hw (by decide +kernel) 0 rfl rfl 1 (by decide) (hts (.fieldLink RX2 20 "OccupancyMonitor$EventLog" "order" "[I") (by decide +kernel)) (fun _ h9 => h9) rfl dX2_dropIfFull_51 ?_
      refine lv_iload_n hx hb dX2_dropIfFull_54 rfl (lv_at hl 2 rfl) ?_
      refine lv_iload_n hx hb dX2_dropIfFull_55 rfl (lv_at hl 1 rfl) ?_
      refine lv_iload_n hx hb dX2_dropIfFull_56 rfl (lv_at hl 2 rfl) ?_
      refine lv_isub hx hb dX2_dropIfFull_57 ?_
      obtain ⟨g16, hsp⟩ := grd_of hsp
      obtain ⟨f15, ef15⟩ : ∃ u : Nat → Int32, u = (va_cpy v0.2.1.2 v0.2.1.2 (y43.2 + (1 : Int32)).toNatClampNeg y43.2.toNatClampNeg (((nI v0.2.1.1) - (1 : Int32)) - y43.2).toNatClampNeg) := ⟨_, rfl⟩
      have hsp := lt_of hsp ef15
      refine k_acopy (bs1 := [[(a0.1, .inr (2, [.ref a0.2.1.1, .ref a0.2.2.1, .ref a0.2.2.2.1, .int v0.2.2.2]))], w9 cA a0.2.1 v0.1, [(a0.2.2.1, .inl (cA, v0.2.1.1, .inl f15))], w9 cA a0.2.2.2 v0.2.2.1]) hx hb (by rw [hml]; exact hl.1.symm) hown (hts (.methodLink RX2 53 arraycopyName) (by decide +kernel)) (hts (.native arraycopyName) (by decide +kernel)) (hts (.static arraycopyName) (by decide +kernel)) (hts (.initialized "java/lang/System") (by decide +kernel)) hz hw 2 2 rfl rfl g16 (Nat.le_of_ble_eq_true rfl) (Nat.le_of_ble_eq_true rfl) dX2_dropIfFull_58 (by rw [ef15]; rfl) (fun H locs hw => ?_)
      refine lv_aload_n hx hb dX2_dropIfFull_61 rfl (lv_at hl 0 rfl) ?_
      refine k_get (ci := 2) (v := .ref a0.2.2.1) (C := RX2) (T := TX2) (N := 4) hx hb hts hown hz hw (by decide +kernel) 0 rfl rfl 1 (by decide) (hts (.fieldLink RX2 20 "OccupancyMonitor$EventLog" "order" "[I") (by decide +kernel)) (fun _ h9 => h9) rfl dX2_dropIfFull_62 ?_
      refine lv_iload_n hx hb dX2_dropIfFull_65 rfl (lv_at hl 1 rfl) ?_
      refine lv_iload_n hx hb dX2_dropIfFull_66 rfl (lv_at hl 3 rfl) ?_
      obtain ⟨g17, hsp⟩ := grd_of hsp
      obtain ⟨f18, ef18⟩ : ∃ u : Nat → Int32, u = (upd f15 ((nI v0.2.1.1) - (1 : Int32)).toNatClampNeg y43.1) := ⟨_, rfl⟩
      have hsp := lt_of hsp ef18
      refine k_iast (bs1 := [[(a0.1, .inr (2, [.ref a0.2.1.1, .ref a0.2.2.1, .ref a0.2.2.2.1, .int v0.2.2.2]))], w9 cA a0.2.1 v0.1, [(a0.2.2.1, .inl (cA, v0.2.1.1, .inl f18))], w9 cA a0.2.2.2 v0.2.2.1]) hx hb hz hw 2 rfl g17 dX2_dropIfFull_67 (by rw [ef18]; rfl) (fun H locs hw => ?_)
      refine lv_aload_n hx hb dX2_dropIfFull_68 rfl (lv_at hl 0 rfl) ?_
      refine lv_iload_n hx hb dX2_dropIfFull_69 rfl (lv_at hl 1 rfl) ?_
      refine k_put (ci := 2) (v := .int ((nI v0.2.1.1) - (1 : Int32))) (ty := .int) (C := RX2) (T := TX2) (N := 4) (bs1 := [[(a0.1, .inr (2, [.ref a0.2.1.1, .ref a0.2.2.1, .ref a0.2.2.2.1, .int ((nI v0.2.1.1) - (1 : Int32))]))], w9 cA a0.2.1 v0.1, [(a0.2.2.1, .inl (cA, v0.2.1.1, .inl f18))], w9 cA a0.2.2.2 v0.2.2.1]) hx hb hts hown hz hw (by decide +kernel) tyX2 tyX2_ok nmX2 0 rfl rfl 3 (by decide) (hts (.fieldLink RX2 31 "OccupancyMonitor$EventLog" "count" "I") (by decide +kernel)) (fun _ h9 => h9) rfl (by decide +kernel) rfl rfl (Nat.le_of_ble_eq_true rfl) dX2_dropIfFull_70 rfl (fun H locs hw => ?_)
      have hsp := Option.some.inj hsp
      subst hsp
      have hw : ww A s.heap D [w2 cA a0 (v0.1, (v0.2.1.1, f18), v0.2.2.1, ((nI v0.2.1.1) - (1 : Int32)))] H locs := hw
      subst hQ
      exact k_vret hx hb hr hlk hw dX2_dropIfFull_73
    · subst hy80
      have hsp := eli_r hsp
      have hsp := Option.some.inj hsp
      subst hsp
      have hw : ww A s.heap D [w2 cA a0 v0] H locs := hw
      subst hQ
      exact k_vret hx hb hr hlk hw dX2_dropIfFull_80
  · have hsp := iff_ c1 hsp
    have hsp := Option.some.inj hsp
    subst hsp
    have hw : ww A s.heap D [w2 cA a0 v0] H locs := hw
    subst hQ
    exact k_vret hx hb hr hlk hw dX2_dropIfFull_16
noncomputable def sX2_open (v0 : V2) (p1 : Int32) (p2 : Int32) (p3 : Int32) : Option (V2) := ((sX10_within v0.2.2.2 (nI v0.2.1.1)).bind (fun o1 => (if o1 = 0 then (some v0) else (grd (vp_in v0.2.2.2 v0.2.1.1) ((sX9_set v0.1 (v0.2.1.2 v0.2.2.2.toNatClampNeg) (0 : Int32) p1).bind (fun o4 => ((sX9_set o4 (v0.2.1.2 v0.2.2.2.toNatClampNeg) (1 : Int32) p2).bind (fun o5 => ((sX9_set o5 (v0.2.1.2 v0.2.2.2.toNatClampNeg) (2 : Int32) p2).bind (fun o6 => ((sX9_set o6 (v0.2.1.2 v0.2.2.2.toNatClampNeg) (3 : Int32) p3).bind (fun o7 => ((sX9_set o7 (v0.2.1.2 v0.2.2.2.toNatClampNeg) (4 : Int32) (1 : Int32)).bind (fun o8 => ((sX9_set v0.2.2.1 p1 (0 : Int32) (v0.2.1.2 v0.2.2.2.toNatClampNeg)).bind (fun o9 => (some (o8, v0.2.1, o9, (v0.2.2.2 + (1 : Int32))))))))))))))))))))
abbrev rX2_open : Room := { frames := 1, cells := 0, slots := 0, locals := 23 }
set_option maxHeartbeats 4000000 in
set_option maxRecDepth 100000 in
theorem mX2_open (l : Launch) (D : va_G) (cA cR : ClassId) (a0 : A2) (v0 : V2) (p1 : Int32) (p2 : Int32) (p3 : Int32) (o : V2) (hsp : sX2_open v0 p1 p2 p3 = some o) : MI l yX2_open wsX2_open rX2_open D cA cR [.ref a0.1, .int p1, .int p2, .int p3] [w2 cA a0 v0] none [w2 cA a0 o] 0 0 := by
  have hsp : ((sX10_within v0.2.2.2 (nI v0.2.1.1)).bind (fun o1 => (if o1 = 0 then (some v0) else (grd (vp_in v0.2.2.2 v0.2.1.1) ((sX9_set v0.1 (v0.2.1.2 v0.2.2.2.toNatClampNeg) (0 : Int32) p1).bind (fun o4 => ((sX9_set o4 (v0.2.1.2 v0.2.2.2.toNatClampNeg) (1 : Int32) p2).bind (fun o5 => ((sX9_set o5 (v0.2.1.2 v0.2.2.2.toNatClampNeg) (2 : Int32) p2).bind (fun o6 => ((sX9_set o6 (v0.2.1.2 v0.2.2.2.toNatClampNeg) (3 : Int32) p3).bind (fun o7 => ((sX9_set o7 (v0.2.1.2 v0.2.2.2.toNatClampNeg) (4 : Int32) (1 : Int32)).bind (fun o8 => ((sX9_set v0.2.2.1 p1 (0 : Int32) (v0.2.1.2 v0.2.2.2.toNatClampNeg)).bind (fun o9 => (some (o8, v0.2.1, o9, (v0.2.2.2 + (1 : Int32)))))))))))))))))))) = some o := hsp
  refine MI.ofW (cc := cX2_open) (maxL := 5) (ret := none) (by decide) rfl (Nat.le_of_ble_eq_true rfl) ?_
  intro p e s m args below meth c A ls Q H locs hx hb hr hlk hml hown hnm hts hz hA hQ hw hl
  have hl : lv_has ls 5 [(0, .ref a0.1), (1, .int p1), (2, .int p2), (3, .int p3)] := hl
  have hw : ww A s.heap D [[(a0.1, .inr (2, [.ref a0.2.1.1, .ref a0.2.2.1, .ref a0.2.2.2.1, .int v0.2.2.2]))], w9 cA a0.2.1 v0.1, [(a0.2.2.1, .inl (cA, v0.2.1.1, .inl v0.2.1.2))], w9 cA a0.2.2.2 v0.2.2.1] H locs := hw
  refine lv_aload_n hx hb dX2_open_0 rfl (lv_at hl 0 rfl) ?_
  refine k_get (ci := 2) (v := .int v0.2.2.2) (C := RX2) (T := TX2) (N := 4) hx hb hts hown hz hw (by decide +kernel) 0 rfl rfl 3 (by decide) (hts (.fieldLink RX2 31 "OccupancyMonitor$EventLog" "count" "I") (by decide +kernel)) (fun _ h9 => h9) rfl dX2_open_1 ?_
  refine lv_aload_n hx hb dX2_open_4 rfl (lv_at hl 0 rfl) ?_
  refine k_get (ci := 2) (v := .ref a0.2.2.1) (C := RX2) (T := TX2) (N := 4) hx hb hts hown hz hw (by decide +kernel) 0 rfl rfl 1 (by decide) (hts (.fieldLink RX2 20 "OccupancyMonitor$EventLog" "order" "[I") (by decide +kernel)) (fun _ h9 => h9) rfl dX2_open_5 ?_
  refine k_alen hx hb hz hw 2 rfl dX2_open_8 ?_
  obtain ⟨o1, hso1, hsp⟩ := bnd_of hsp
  refine k_callSN (nA := 2) (As := [.int v0.2.2.2, .int (nI v0.2.1.1)]) (host := "OccupancyMonitor") (cs := []) (rs := [[(a0.1, .inr (2, [.ref a0.2.1.1, .ref a0.2.2.1, .ref a0.2.2.2.1, .int v0.2.2.2]))], w9 cA a0.2.1 v0.1, [(a0.2.2.1, .inl (cA, v0.2.1.1, .inl v0.2.1.2))], w9 cA a0.2.2.2 v0.2.2.1]) (cs1 := []) (bs1 := [[(a0.1, .inr (2, [.ref a0.2.1.1, .ref a0.2.2.1, .ref a0.2.2.2.1, .int v0.2.2.2]))], w9 cA a0.2.1 v0.1, [(a0.2.2.1, .inl (cA, v0.2.1.1, .inl v0.2.1.2))], w9 cA a0.2.2.2 v0.2.2.1]) (rest := []) (st1 := [.int o1]) ⟨hx, hb, hml, hown, hts⟩ hz hw hA (mX10_within l D cA cR v0.2.2.2 (nI v0.2.1.1) o1 hso1) gX2_open_X10_within_n35 rfl rfl rfl (by decide +kernel) (by decide +kernel) (by decide +kernel) (by decide +kernel) rfl ⟨Nat.le_of_ble_eq_true rfl, Nat.le_of_ble_eq_true rfl⟩ hl.1 rfl (Nat.le_of_ble_eq_true rfl) dX2_open_9 ⟨Nat.le_of_ble_eq_true rfl, Nat.le_of_ble_eq_true rfl⟩ [] [0, 1, 2, 3] [0, 1, 2, 3] rfl rfl rfl rfl rfl rfl (fun H locs hw => ?_)
  refine lv_if_ne (tgt := 16) hx hb dX2_open_12 (by decide) (fun c2 => ?_) (fun c2 => ?_)
  · have hsp := iff_ c2 hsp
    refine lv_aload_n hx hb dX2_open_16 rfl (lv_at hl 0 rfl) ?_
    refine k_get (ci := 2) (v := .ref a0.2.2.1) (C := RX2) (T := TX2) (N := 4) hx hb hts hown hz hw (by decide +kernel) 0 rfl rfl 1 (by decide) (hts (.fieldLink RX2 20 "OccupancyMonitor$EventLog" "order" "[I") (by decide +kernel)) (fun _ h9 => h9) rfl dX2_open_17 ?_
    refine lv_aload_n hx hb dX2_open_20 rfl (lv_at hl 0 rfl) ?_
    refine k_get (ci := 2) (v := .int v0.2.2.2) (C := RX2) (T := TX2) (N := 4) hx hb hts hown hz hw (by decide +kernel) 0 rfl rfl 3 (by decide) (hts (.fieldLink RX2 31 "OccupancyMonitor$EventLog" "count" "I") (by decide +kernel)) (fun _ h9 => h9) rfl dX2_open_21 ?_
    obtain ⟨g3, hsp⟩ := grd_of hsp
    refine k_iald hx hb hz hw 2 rfl g3 dX2_open_24 ?_
    refine lv_istore (lv' := [(4, .int (v0.2.1.2 v0.2.2.2.toNatClampNeg)), (0, .ref a0.1), (1, .int p1), (2, .int p2), (3, .int p3)]) hx hb dX2_open_25 hl (by decide) rfl (fun ls hl => ?_)
    refine lv_aload_n hx hb dX2_open_27 rfl (lv_at hl 1 rfl) ?_
    refine k_get (ci := 2) (v := .ref a0.2.1.1) (C := RX2) (T := TX2) (N := 4) hx hb hts hown hz hw (by decide +kernel) 0 rfl rfl 0 (by decide) (hts (.fieldLink RX2 14 "OccupancyMonitor$EventLog" "slots" "LOccupancyMonitor$Table;") (by decide +kernel)) (fun _ h9 => h9) rfl dX2_open_28 ?_
    refine lv_iload hx hb dX2_open_31 (lv_at hl 0 rfl) ?_
    refine lv_iconst (v := 0) hx hb dX2_open_33 (by decide) ?_
    refine lv_iload_n hx hb dX2_open_34 rfl (lv_at hl 2 rfl) ?_
    obtain ⟨o4, hso4, hsp⟩ := bnd_of hsp
    refine k_callV (ci := 9) (C := RX9) (T := TX9) (N := 3) (nA := 3) (As := [.int (v0.2.1.2 v0.2.2.2.toNatClampNeg), .int (0 : Int32), .int p1]) (cs := [w9 cA a0.2.1 v0.1]) (rs := [[(a0.1, .inr (2, [.ref a0.2.1.1, .ref a0.2.2.1, .ref a0.2.2.2.1, .int v0.2.2.2]))], [(a0.2.2.1, .inl (cA, v0.2.1.1, .inl v0.2.1.2))], w9 cA a0.2.2.2 v0.2.2.1]) (cs1 := [w9 cA a0.2.1 o4]) (bs1 := [[(a0.1, .inr (2, [.ref a0.2.1.1, .ref a0.2.2.1, .ref a0.2.2.2.1, .int v0.2.2.2]))], w9 cA a0.2.1 o4, [(a0.2.2.1, .inl (cA, v0.2.1.1, .inl v0.2.1.2))], w9 cA a0.2.2.2 v0.2.2.1]) (rest := []) (st1 := []) ⟨hx, hb, hml, hown, hts⟩ hz hw hA (mX9_set l D cA cR a0.2.1 v0.1 (v0.2.1.2 v0.2.2.2.toNatClampNeg) (0 : Int32) p1 o4 hso4) gX2_open_X9_set rfl rfl rfl (by decide +kernel) rfl ⟨Nat.le_of_ble_eq_true rfl, Nat.le_of_ble_eq_true rfl⟩ rfl rfl hl.1 rfl (Nat.le_of_ble_eq_true rfl) dX2_open_35 ⟨Nat.le_of_ble_eq_true rfl, Nat.le_of_ble_eq_true rfl⟩ [1] [0, 2, 3] [0, 3, 1, 2] rfl rfl rfl rfl rfl rfl (fun H locs hw => ?_)
    refine lv_aload_n hx hb dX2_open_38 rfl (lv_at hl 1 rfl) ?_
    refine k_get (ci := 2) (v := .ref a0.2.1.1) (C := RX2) (T := TX2) (N := 4) hx hb hts hown hz hw (by decide +kernel) 0 rfl rfl 0 (by decide) (hts (.fieldLink RX2 14 "OccupancyMonitor$EventLog" "slots" "LOccupancyMonitor$Table;") (by decide +kernel)) (fun _ h9 => h9) rfl dX2_open_39 ?_
    refine lv_iload hx hb dX2_open_42 (lv_at hl 0 rfl) ?_
    refine lv_iconst (v := 1) hx hb dX2_open_44 (by decide) ?_
    refine lv_iload_n hx hb dX2_open_45 rfl (lv_at hl 3 rfl) ?_
    obtain ⟨o5, hso5, hsp⟩ := bnd_of hsp
    refine k_callV (ci := 9) (C := RX9) (T := TX9) (N := 3) (nA := 3) (As := [.int (v0.2.1.2 v0.2.2.2.toNatClampNeg), .int (1 : Int32), .int p2]) (cs := [w9 cA a0.2.1 o4]) (rs := [[(a0.1, .inr (2, [.ref a0.2.1.1, .ref a0.2.2.1, .ref a0.2.2.2.1, .int v0.2.2.2]))], [(a0.2.2.1, .inl (cA, v0.2.1.1, .inl v0.2.1.2))], w9 cA a0.2.2.2 v0.2.2.1]) (cs1 := [w9 cA a0.2.1 o5]) (bs1 := [[(a0.1, .inr (2, [.ref a0.2.1.1, .ref a0.2.2.1, .ref a0.2.2.2.1, .int v0.2.2.2]))], w9 cA a0.2.1 o5, [(a0.2.2.1, .inl (cA, v0.2.1.1, .inl v0.2.1.2))], w9 cA a0.2.2.2 v0.2.2.1]) (rest := []) (st1 := []) ⟨hx, hb, hml, hown, hts⟩ hz hw hA (mX9_set l D cA cR a0.2.1 o4 (v0.2.1.2 v0.2.2.2.toNatClampNeg) (1 : Int32) p2 o5 hso5) gX2_open_X9_set rfl rfl rfl (by decide +kernel) rfl ⟨Nat.le_of_ble_eq_true rfl, Nat.le_of_ble_eq_true rfl⟩ rfl rfl hl.1 rfl (Nat.le_of_ble_eq_true rfl) dX2_open_46 ⟨Nat.le_of_ble_eq_true rfl, Nat.le_of_ble_eq_true rfl⟩ [1] [0, 2, 3] [0, 3, 1, 2] rfl rfl rfl rfl rfl rfl (fun H locs hw => ?_)
    refine lv_aload_n hx hb dX2_open_49 rfl (lv_at hl 1 rfl) ?_
    refine k_get (ci := 2) (v := .ref a0.2.1.1) (C := RX2) (T := TX2) (N := 4) hx hb hts hown hz hw (by decide +kernel) 0 rfl rfl 0 (by decide) (hts (.fieldLink RX2 14 "OccupancyMonitor$EventLog" "slots" "LOccupancyMonitor$Table;") (by decide +kernel)) (fun _ h9 => h9) rfl dX2_open_50 ?_
    refine lv_iload hx hb dX2_open_53 (lv_at hl 0 rfl) ?_
    refine lv_iconst (v := 2) hx hb dX2_open_55 (by decide) ?_
    refine lv_iload_n hx hb dX2_open_56 rfl (lv_at hl 3 rfl) ?_
    obtain ⟨o6, hso6, hsp⟩ := bnd_of hsp
    refine k_callV (ci := 9) (C := RX9) (T := TX9) (N := 3) (nA := 3) (As := [.int (v0.2.1.2 v0.2.2.2.toNatClampNeg), .int (2 : Int32), .int p2]) (cs := [w9 cA a0.2.1 o5]) (rs := [[(a0.1, .inr (2, [.ref a0.2.1.1, .ref a0.2.2.1, .ref a0.2.2.2.1, .int v0.2.2.2]))], [(a0.2.2.1, .inl (cA, v0.2.1.1, .inl v0.2.1.2))], w9 cA a0.2.2.2 v0.2.2.1]) (cs1 := [w9 cA a0.2.1 o6]) (bs1 := [[(a0.1, .inr (2, [.ref a0.2.1.1, .ref a0.2.2.1, .ref a0.2.2.2.1, .int v0.2.2.2]))], w9 cA a0.2.1 o6, [(a0.2.2.1, .inl (cA, v0.2.1.1, .inl v0.2.1.2))], w9 cA a0.2.2.2 v0.2.2.1]) (rest := []) (st1 := []) ⟨hx, hb, hml, hown, hts⟩ hz hw hA (mX9_set l D cA cR a0.2.1 o5 (v0.2.1.2 v0.2.2.2.toNatClampNeg) (2 : Int32) p2 o6 hso6) gX2_open_X9_set rfl rfl rfl (by decide +kernel) rfl ⟨Nat.le_of_ble_eq_true rfl, Nat.le_of_ble_eq_true rfl⟩ rfl rfl hl.1 rfl (Nat.le_of_ble_eq_true rfl) dX2_open_57 ⟨Nat.le_of_ble_eq_true rfl, Nat.le_of_ble_eq_true rfl⟩ [1] [0, 2, 3] [0, 3, 1, 2] rfl rfl rfl rfl rfl rfl (fun H locs hw => ?_)
    refine lv_aload_n hx hb dX2_open_60 rfl (lv_at hl 1 rfl) ?_
    refine k_get (ci := 2) (v := .ref a0.2.1.1) (C := RX2) (T := TX2) (N := 4) hx hb hts hown hz hw (by decide +kernel) 0 rfl rfl 0 (by decide) (hts (.fieldLink RX2 14 "OccupancyMonitor$EventLog" "slots" "LOccupancyMonitor$Table;") (by decide +kernel)) (fun _ h9 => h9) rfl dX2_open_61 ?_
    refine lv_iload hx hb dX2_open_64 (lv_at hl 0 rfl) ?_
    refine lv_iconst (v := 3) hx hb dX2_open_66 (by decide) ?_
    refine lv_iload_n hx hb dX2_open_67 rfl (lv_at hl 4 rfl) ?_
    obtain ⟨o7, hso7, hsp⟩ := bnd_of hsp
    refine k_callV (ci := 9) (C := RX9) (T := TX9) (N := 3) (nA := 3) (As := [.int (v0.2.1.2 v0.2.2.2.toNatClampNeg), .int (3 : Int32), .int p3]) (cs := [w9 cA a0.2.1 o6]) (rs := [[(a0.1, .inr (2, [.ref a0.2.1.1, .ref a0.2.2.1, .ref a0.2.2.2.1, .int v0.2.2.2]))], [(a0.2.2.1, .inl (cA, v0.2.1.1, .inl v0.2.1.2))], w9 cA a0.2.2.2 v0.2.2.1]) (cs1 := [w9 cA a0.2.1 o7]) (bs1 := [[(a0.1, .inr (2, [.ref a0.2.1.1, .ref a0.2.2.1, .ref a0.2.2.2.1, .int v0.2.2.2]))], w9 cA a0.2.1 o7, [(a0.2.2.1, .inl (cA, v0.2.1.1, .inl v0.2.1.2))], w9 cA a0.2.2.2 v0.2.2.1]) (rest := []) (st1 := []) ⟨hx, hb, hml, hown, hts⟩ hz hw hA (mX9_set l D cA cR a0.2.1 o6 (v0.2.1.2 v0.2.2.2.toNatClampNeg) (3 : Int32) p3 o7 hso7) gX2_open_X9_set rfl rfl rfl (by decide +kernel) rfl ⟨Nat.le_of_ble_eq_true rfl, Nat.le_of_ble_eq_true rfl⟩ rfl rfl hl.1 rfl (Nat.le_of_ble_eq_true rfl) dX2_open_68 ⟨Nat.le_of_ble_eq_true rfl, Nat.le_of_ble_eq_true rfl⟩ [1] [0, 2, 3] [0, 3, 1, 2] rfl rfl rfl rfl rfl rfl (fun H locs hw => ?_)
    refine lv_aload_n hx hb dX2_open_71 rfl (lv_at hl 1 rfl) ?_
    refine k_get (ci := 2) (v := .ref a0.2.1.1) (C := RX2) (T := TX2) (N := 4) hx hb hts hown hz hw (by decide +kernel) 0 rfl rfl 0 (by decide) (hts (.fieldLink RX2 14 "OccupancyMonitor$EventLog" "slots" "LOccupancyMonitor$Table;") (by decide +kernel)) (fun _ h9 => h9) rfl dX2_open_72 ?_
    refine lv_iload hx hb dX2_open_75 (lv_at hl 0 rfl) ?_
    refine lv_iconst (v := 4) hx hb dX2_open_77 (by decide) ?_
    refine lv_iconst (v := 1) hx hb dX2_open_78 (by decide) ?_
    obtain ⟨o8, hso8, hsp⟩ := bnd_of hsp
    refine k_callV (ci := 9) (C := RX9) (T := TX9) (N := 3) (nA := 3) (As := [.int (v0.2.1.2 v0.2.2.2.toNatClampNeg), .int (4 : Int32), .int (1 : Int32)]) (cs := [w9 cA a0.2.1 o7]) (rs := [[(a0.1, .inr (2, [.ref a0.2.1.1, .ref a0.2.2.1, .ref a0.2.2.2.1, .int v0.2.2.2]))], [(a0.2.2.1, .inl (cA, v0.2.1.1, .inl v0.2.1.2))], w9 cA a0.2.2.2 v0.2.2.1]) (cs1 := [w9 cA a0.2.1 o8]) (bs1 := [[(a0.1, .inr (2, [.ref a0.2.1.1, .ref a0.2.2.1, .ref a0.2.2.2.1, .int v0.2.2.2]))], w9 cA a0.2.1 o8, [(a0.2.2.1, .inl (cA, v0.2.1.1, .inl v0.2.1.2))], w9 cA a0.2.2.2 v0.2.2.1]) (rest := []) (st1 := []) ⟨hx, hb, hml, hown, hts⟩ hz hw hA (mX9_set l D cA cR a0.2.1 o7 (v0.2.1.2 v0.2.2.2.toNatClampNeg) (4 : Int32) (1 : Int32) o8 hso8) gX2_open_X9_set rfl rfl rfl (by decide +kernel) rfl ⟨Nat.le_of_ble_eq_true rfl, Nat.le_of_ble_eq_true rfl⟩ rfl rfl hl.1 rfl (Nat.le_of_ble_eq_true rfl) dX2_open_79 ⟨Nat.le_of_ble_eq_true rfl, Nat.le_of_ble_eq_true rfl⟩ [1] [0, 2, 3] [0, 3, 1, 2] rfl rfl rfl rfl rfl rfl (fun H locs hw => ?_)
    refine lv_aload_n hx hb dX2_open_82 rfl (lv_at hl 1 rfl) ?_
    refine k_get (ci := 2) (v := .ref a0.2.2.2.1) (C := RX2) (T := TX2) (N := 4) hx hb hts hown hz hw (by decide +kernel) 0 rfl rfl 2 (by decide) (hts (.fieldLink RX2 24 "OccupancyMonitor$EventLog" "openSlots" "LOccupancyMonitor$Table;") (by decide +kernel)) (fun _ h9 => h9) rfl dX2_open_83 ?_
    refine lv_iload_n hx hb dX2_open_86 rfl (lv_at hl 2 rfl) ?_
    refine lv_iconst (v := 0) hx hb dX2_open_87 (by decide) ?_
    refine lv_iload hx hb dX2_open_88 (lv_at hl 0 rfl) ?_
    obtain ⟨o9, hso9, hsp⟩ := bnd_of hsp
    refine k_callV (ci := 9) (C := RX9) (T := TX9) (N := 3) (nA := 3) (As := [.int p1, .int (0 : Int32), .int (v0.2.1.2 v0.2.2.2.toNatClampNeg)]) (cs := [w9 cA a0.2.2.2 v0.2.2.1]) (rs := [[(a0.1, .inr (2, [.ref a0.2.1.1, .ref a0.2.2.1, .ref a0.2.2.2.1, .int v0.2.2.2]))], w9 cA a0.2.1 o8, [(a0.2.2.1, .inl (cA, v0.2.1.1, .inl v0.2.1.2))]]) (cs1 := [w9 cA a0.2.2.2 o9]) (bs1 := [[(a0.1, .inr (2, [.ref a0.2.1.1, .ref a0.2.2.1, .ref a0.2.2.2.1, .int v0.2.2.2]))], w9 cA a0.2.1 o8, [(a0.2.2.1, .inl (cA, v0.2.1.1, .inl v0.2.1.2))], w9 cA a0.2.2.2 o9]) (rest := []) (st1 := []) ⟨hx, hb, hml, hown, hts⟩ hz hw hA (mX9_set l D cA cR a0.2.2.2 v0.2.2.1 p1 (0 : Int32) (v0.2.1.2 v0.2.2.2.toNatClampNeg) o9 hso9) gX2_open_X9_set rfl rfl rfl (by decide +kernel) rfl ⟨Nat.le_of_ble_eq_true rfl, Nat.le_of_ble_eq_true rfl⟩ rfl rfl hl.1 rfl (Nat.le_of_ble_eq_true rfl) dX2_open_90 ⟨Nat.le_of_ble_eq_true rfl, Nat.le_of_ble_eq_true rfl⟩ [3] [0, 1, 2] [0, 1, 2, 3] rfl rfl rfl rfl rfl rfl (fun H locs hw => ?_)
    refine lv_aload_n hx hb dX2_open_93 rfl (lv_at hl 1 rfl) ?_
    refine lv_dup hx hb dX2_open_94 rfl ?_
    refine k_get (ci := 2) (v := .int v0.2.2.2) (C := RX2) (T := TX2) (N := 4) hx hb hts hown hz hw (by decide +kernel) 0 rfl rfl 3 (by decide) (hts (.fieldLink RX2 31 "OccupancyMonitor$EventLog" "count" "I") (by decide +kernel)) (fun _ h9 => h9) rfl dX2_open_95 ?_
    refine lv_iconst (v := 1) hx hb dX2_open_98 (by decide) ?_
    refine lv_iadd hx hb dX2_open_99 ?_
    refine k_put (ci := 2) (v := .int (v0.2.2.2 + (1 : Int32))) (ty := .int) (C := RX2) (T := TX2) (N := 4) (bs1 := [[(a0.1, .inr (2, [.ref a0.2.1.1, .ref a0.2.2.1, .ref a0.2.2.2.1, .int (v0.2.2.2 + (1 : Int32))]))], w9 cA a0.2.1 o8, [(a0.2.2.1, .inl (cA, v0.2.1.1, .inl v0.2.1.2))], w9 cA a0.2.2.2 o9]) hx hb hts hown hz hw (by decide +kernel) tyX2 tyX2_ok nmX2 0 rfl rfl 3 (by decide) (hts (.fieldLink RX2 31 "OccupancyMonitor$EventLog" "count" "I") (by decide +kernel)) (fun _ h9 => h9) rfl (by decide +kernel) rfl rfl (Nat.le_of_ble_eq_true rfl) dX2_open_100 rfl (fun H locs hw => ?_)
    have hsp := Option.some.inj hsp
    subst hsp
    have hw : ww A s.heap D [w2 cA a0 (o8, v0.2.1, o9, (v0.2.2.2 + (1 : Int32)))] H locs := hw
    subst hQ
    exact k_vret hx hb hr hlk hw dX2_open_103
  · have hsp := ift c2 hsp
    have hsp := Option.some.inj hsp
    subst hsp
    have hw : ww A s.heap D [w2 cA a0 v0] H locs := hw
    subst hQ
    exact k_vret hx hb hr hlk hw dX2_open_15
noncomputable def sX2_noteHit (N : Nat) (v0 : V2) (p1 : Int32) (p2 : Int32) (p3 : Int32) : Option (V2) := ((sX9_get v0.2.2.1 p1 (0 : Int32)).bind (fun o1 => (if o1 = (-1 : Int32) then ((sX2_dropIfFull N v0).bind (fun o7 => ((sX2_open o7 p1 p2 p3).bind (fun o8 => (some o8))))) else ((sX9_set v0.1 o1 (2 : Int32) p2).bind (fun o3 => ((sX9_get o3 o1 (3 : Int32)).bind (fun o4 => (if p3 ≤ o4 then (some (o3, v0.2.1, v0.2.2.1, v0.2.2.2)) else ((sX9_set o3 o1 (3 : Int32) p3).bind (fun o6 => (some (o6, v0.2.1, v0.2.2.1, v0.2.2.2))))))))))))
abbrev rX2_noteHit : Room := { frames := 2, cells := 0, slots := 0, locals := 49 }
set_option maxHeartbeats 4000000 in
set_option maxRecDepth 100000 in
theorem mX2_noteHit (l : Launch) (D : va_G) (cA cR : ClassId) (N : Nat) (a0 : A2) (v0 : V2) (p1 : Int32) (p2 : Int32) (p3 : Int32) (o : V2) (hsp : sX2_noteHit N v0 p1 p2 p3 = some o) : MI l yX2_noteHit wsX2_noteHit rX2_noteHit D cA cR [.ref a0.1, .int p1, .int p2, .int p3] [w2 cA a0 v0] none [w2 cA a0 o] 0 0 := by
  have hsp : ((sX9_get v0.2.2.1 p1 (0 : Int32)).bind (fun o1 => (if o1 = (-1 : Int32) then ((sX2_dropIfFull N v0).bind (fun o7 => ((sX2_open o7 p1 p2 p3).bind (fun o8 => (some o8))))) else ((sX9_set v0.1 o1 (2 : Int32) p2).bind (fun o3 => ((sX9_get o3 o1 (3 : Int32)).bind (fun o4 => (if p3 ≤ o4 then (some (o3, v0.2.1, v0.2.2.1, v0.2.2.2)) else ((sX9_set o3 o1 (3 : Int32) p3).bind (fun o6 => (some (o6, v0.2.1, v0.2.2.1, v0.2.2.2)))))))))))) = some o := hsp
  refine MI.ofW (cc := cX2_noteHit) (maxL := 5) (ret := none) (by decide) rfl (Nat.le_of_ble_eq_true rfl) ?_
  intro p e s m args below meth c A ls Q H locs hx hb hr hlk hml hown hnm hts hz hA hQ hw hl
  have hl : lv_has ls 5 [(0, .ref a0.1), (1, .int p1), (2, .int p2), (3, .int p3)] := hl
  have hw : ww A s.heap D [[(a0.1, .inr (2, [.ref a0.2.1.1, .ref a0.2.2.1, .ref a0.2.2.2.1, .int v0.2.2.2]))], w9 cA a0.2.1 v0.1, [(a0.2.2.1, .inl (cA, v0.2.1.1, .inl v0.2.1.2))], w9 cA a0.2.2.2 v0.2.2.1] H locs := hw
  refine lv_aload_n hx hb dX2_noteHit_0 rfl (lv_at hl 0 rfl) ?_
  refine k_get (ci := 2) (v := .ref a0.2.2.2.1) (C := RX2) (T := TX2) (N := 4) hx hb hts hown hz hw (by decide +kernel) 0 rfl rfl 2 (by decide) (hts (.fieldLink RX2 24 "OccupancyMonitor$EventLog" "openSlots" "LOccupancyMonitor$Table;") (by decide +kernel)) (fun _ h9 => h9) rfl dX2_noteHit_1 ?_
  refine lv_iload_n hx hb dX2_noteHit_4 rfl (lv_at hl 1 rfl) ?_
  refine lv_iconst (v := 0) hx hb dX2_noteHit_5 (by decide) ?_
  obtain ⟨o1, hso1, hsp⟩ := bnd_of hsp
  refine k_callV (ci := 9) (C := RX9) (T := TX9) (N := 3) (nA := 2) (As := [.int p1, .int (0 : Int32)]) (cs := [w9 cA a0.2.2.2 v0.2.2.1]) (rs := [[(a0.1, .inr (2, [.ref a0.2.1.1, .ref a0.2.2.1, .ref a0.2.2.2.1, .int v0.2.2.2]))], w9 cA a0.2.1 v0.1, [(a0.2.2.1, .inl (cA, v0.2.1.1, .inl v0.2.1.2))]]) (cs1 := [w9 cA a0.2.2.2 v0.2.2.1]) (bs1 := [[(a0.1, .inr (2, [.ref a0.2.1.1, .ref a0.2.2.1, .ref a0.2.2.2.1, .int v0.2.2.2]))], w9 cA a0.2.1 v0.1, [(a0.2.2.1, .inl (cA, v0.2.1.1, .inl v0.2.1.2))], w9 cA a0.2.2.2 v0.2.2.1]) (rest := []) (st1 := [.int o1]) ⟨hx, hb, hml, hown, hts⟩ hz hw hA (mX9_get l D cA cR a0.2.2.2 v0.2.2.1 p1 (0 : Int32) o1 hso1) gX2_noteHit_X9_get rfl rfl rfl (by decide +kernel) rfl ⟨Nat.le_of_ble_eq_true rfl, Nat.le_of_ble_eq_true rfl⟩ rfl rfl hl.1 rfl (Nat.le_of_ble_eq_true rfl) dX2_noteHit_6 ⟨Nat.le_of_ble_eq_true rfl, Nat.le_of_ble_eq_true rfl⟩ [3] [0, 1, 2] [0, 1, 2, 3] rfl rfl rfl rfl rfl rfl (fun H locs hw => ?_)
  refine lv_istore (lv' := [(4, .int o1), (0, .ref a0.1), (1, .int p1), (2, .int p2), (3, .int p3)]) hx hb dX2_noteHit_9 hl (by decide) rfl (fun ls hl => ?_)
  refine lv_iload hx hb dX2_noteHit_11 (lv_at hl 0 rfl) ?_
  refine lv_iconst (v := -1) hx hb dX2_noteHit_13 (by decide) ?_
  refine lv_icmp_ne (tgt := 29) hx hb dX2_noteHit_14 (by decide) (fun c2 => ?_) (fun c2 => ?_)
  · have hsp := iff_ c2 hsp
    refine lv_aload_n hx hb dX2_noteHit_29 rfl (lv_at hl 1 rfl) ?_
    refine k_get (ci := 2) (v := .ref a0.2.1.1) (C := RX2) (T := TX2) (N := 4) hx hb hts hown hz hw (by decide +kernel) 0 rfl rfl 0 (by decide) (hts (.fieldLink RX2 14 "OccupancyMonitor$EventLog" "slots" "LOccupancyMonitor$Table;") (by decide +kernel)) (fun _ h9 => h9) rfl dX2_noteHit_30 ?_
    refine lv_iload hx hb dX2_noteHit_33 (lv_at hl 0 rfl) ?_
    refine lv_iconst (v := 2) hx hb dX2_noteHit_35 (by decide) ?_
    refine lv_iload_n hx hb dX2_noteHit_36 rfl (lv_at hl 3 rfl) ?_
    obtain ⟨o3, hso3, hsp⟩ := bnd_of hsp
    refine k_callV (ci := 9) (C := RX9) (T := TX9) (N := 3) (nA := 3) (As := [.int o1, .int (2 : Int32), .int p2]) (cs := [w9 cA a0.2.1 v0.1]) (rs := [[(a0.1, .inr (2, [.ref a0.2.1.1, .ref a0.2.2.1, .ref a0.2.2.2.1, .int v0.2.2.2]))], [(a0.2.2.1, .inl (cA, v0.2.1.1, .inl v0.2.1.2))], w9 cA a0.2.2.2 v0.2.2.1]) (cs1 := [w9 cA a0.2.1 o3]) (bs1 := [[(a0.1, .inr (2, [.ref a0.2.1.1, .ref a0.2.2.1, .ref a0.2.2.2.1, .int v0.2.2.2]))], w9 cA a0.2.1 o3, [(a0.2.2.1, .inl (cA, v0.2.1.1, .inl v0.2.1.2))], w9 cA a0.2.2.2 v0.2.2.1]) (rest := []) (st1 := []) ⟨hx, hb, hml, hown, hts⟩ hz hw hA (mX9_set l D cA cR a0.2.1 v0.1 o1 (2 : Int32) p2 o3 hso3) gX2_noteHit_X9_set rfl rfl rfl (by decide +kernel) rfl ⟨Nat.le_of_ble_eq_true rfl, Nat.le_of_ble_eq_true rfl⟩ rfl rfl hl.1 rfl (Nat.le_of_ble_eq_true rfl) dX2_noteHit_37 ⟨Nat.le_of_ble_eq_true rfl, Nat.le_of_ble_eq_true rfl⟩ [1] [0, 2, 3] [0, 3, 1, 2] rfl rfl rfl rfl rfl rfl (fun H locs hw => ?_)
    refine lv_iload_n hx hb dX2_noteHit_40 rfl (lv_at hl 4 rfl) ?_
    refine lv_aload_n hx hb dX2_noteHit_41 rfl (lv_at hl 1 rfl) ?_
    refine k_get (ci := 2) (v := .ref a0.2.1.1) (C := RX2) (T := TX2) (N := 4) hx hb hts hown hz hw (by decide +kernel) 0 rfl rfl 0 (by decide) (hts (.fieldLink RX2 14 "OccupancyMonitor$EventLog" "slots" "LOccupancyMonitor$Table;") (by decide +kernel)) (fun _ h9 => h9) rfl dX2_noteHit_42 ?_
    refine lv_iload hx hb dX2_noteHit_45 (lv_at hl 0 rfl) ?_
    refine lv_iconst (v := 3) hx hb dX2_noteHit_47 (by decide) ?_
    obtain ⟨o4, hso4, hsp⟩ := bnd_of hsp
    refine k_callV (ci := 9) (C := RX9) (T := TX9) (N := 3) (nA := 2) (As := [.int o1, .int (3 : Int32)]) (cs := [w9 cA a0.2.1 o3]) (rs := [[(a0.1, .inr (2, [.ref a0.2.1.1, .ref a0.2.2.1, .ref a0.2.2.2.1, .int v0.2.2.2]))], [(a0.2.2.1, .inl (cA, v0.2.1.1, .inl v0.2.1.2))], w9 cA a0.2.2.2 v0.2.2.1]) (cs1 := [w9 cA a0.2.1 o3]) (bs1 := [[(a0.1, .inr (2, [.ref a0.2.1.1, .ref a0.2.2.1, .ref a0.2.2.2.1, .int v0.2.2.2]))], w9 cA a0.2.1 o3, [(a0.2.2.1, .inl (cA, v0.2.1.1, .inl v0.2.1.2))], w9 cA a0.2.2.2 v0.2.2.1]) (rest := [.int p3]) (st1 := [.int o4, .int p3]) ⟨hx, hb, hml, hown, hts⟩ hz hw hA (mX9_get l D cA cR a0.2.1 o3 o1 (3 : Int32) o4 hso4) gX2_noteHit_X9_get rfl rfl rfl (by decide +kernel) rfl ⟨Nat.le_of_ble_eq_true rfl, Nat.le_of_ble_eq_true rfl⟩ rfl rfl hl.1 rfl (Nat.le_of_ble_eq_true rfl) dX2_noteHit_48 ⟨Nat.le_of_ble_eq_true rfl, Nat.le_of_ble_eq_true rfl⟩ [1] [0, 2, 3] [0, 3, 1, 2] rfl rfl rfl rfl rfl rfl (fun H locs hw => ?_)
    refine lv_icmp_le (tgt := 65) hx hb dX2_noteHit_51 (by decide) (fun c5 => ?_) (fun c5 => ?_)
    · have hsp := ift c5 hsp
      have hsp := Option.some.inj hsp
      subst hsp
      have hw : ww A s.heap D [w2 cA a0 (o3, v0.2.1, v0.2.2.1, v0.2.2.2)] H locs := hw
      subst hQ
      exact k_vret hx hb hr hlk hw dX2_noteHit_65
    · have hsp := iff_ c5 hsp
      refine lv_aload_n hx hb dX2_noteHit_54 rfl (lv_at hl 1 rfl) ?_
      refine k_get (ci := 2) (v := .ref a0.2.1.1) (C := RX2) (T := TX2) (N := 4) hx hb hts hown hz hw (by decide +kernel) 0 rfl rfl 0 (by decide) (hts (.fieldLink RX2 14 "OccupancyMonitor$EventLog" "slots" "LOccupancyMonitor$Table;") (by decide +kernel)) (fun _ h9 => h9) rfl dX2_noteHit_55 ?_
      refine lv_iload hx hb dX2_noteHit_58 (lv_at hl 0 rfl) ?_
      refine lv_iconst (v := 3) hx hb dX2_noteHit_60 (by decide) ?_
      refine lv_iload_n hx hb dX2_noteHit_61 rfl (lv_at hl 4 rfl) ?_
      obtain ⟨o6, hso6, hsp⟩ := bnd_of hsp
      refine k_callV (ci := 9) (C := RX9) (T := TX9) (N := 3) (nA := 3) (As := [.int o1, .int (3 : Int32), .int p3]) (cs := [w9 cA a0.2.1 o3]) (rs := [[(a0.1, .inr (2, [.ref a0.2.1.1, .ref a0.2.2.1, .ref a0.2.2.2.1, .int v0.2.2.2]))], [(a0.2.2.1, .inl (cA, v0.2.1.1, .inl v0.2.1.2))], w9 cA a0.2.2.2 v0.2.2.1]) (cs1 := [w9 cA a0.2.1 o6]) (bs1 := [[(a0.1, .inr (2, [.ref a0.2.1.1, .ref a0.2.2.1, .ref a0.2.2.2.1, .int v0.2.2.2]))], w9 cA a0.2.1 o6, [(a0.2.2.1, .inl (cA, v0.2.1.1, .inl v0.2.1.2))], w9 cA a0.2.2.2 v0.2.2.1]) (rest := []) (st1 := []) ⟨hx, hb, hml, hown, hts⟩ hz hw hA (mX9_set l D cA cR a0.2.1 o3 o1 (3 : Int32) p3 o6 hso6) gX2_noteHit_X9_set rfl rfl rfl (by decide +kernel) rfl ⟨Nat.le_of_ble_eq_true rfl, Nat.le_of_ble_eq_true rfl⟩ rfl rfl hl.1 rfl (Nat.le_of_ble_eq_true rfl) dX2_noteHit_62 ⟨Nat.le_of_ble_eq_true rfl, Nat.le_of_ble_eq_true rfl⟩ [1] [0, 2, 3] [0, 3, 1, 2] rfl rfl rfl rfl rfl rfl (fun H locs hw => ?_)
      have hsp := Option.some.inj hsp
      subst hsp
      have hw : ww A s.heap D [w2 cA a0 (o6, v0.2.1, v0.2.2.1, v0.2.2.2)] H locs := hw
      subst hQ
      exact k_vret hx hb hr hlk hw dX2_noteHit_65
  · have hsp := ift c2 hsp
    refine lv_aload_n hx hb dX2_noteHit_17 rfl (lv_at hl 1 rfl) ?_
    have hw : ww A s.heap D [w2 cA a0 v0] H locs := hw
    obtain ⟨o7, hso7, hsp⟩ := bnd_of hsp
    refine k_callV (ci := 2) (C := RX2) (T := TX2) (N := 4) (nA := 0) (As := []) (cs := [w2 cA a0 v0]) (rs := []) (cs1 := [w2 cA a0 o7]) (bs1 := [w2 cA a0 o7]) (rest := []) (st1 := []) ⟨hx, hb, hml, hown, hts⟩ hz hw hA (mX2_dropIfFull l D cA cR N a0 v0 o7 hso7) gX2_noteHit_X2_dropIfFull rfl rfl rfl (by decide +kernel) rfl ⟨Nat.le_of_ble_eq_true rfl, Nat.le_of_ble_eq_true rfl⟩ rfl rfl hl.1 rfl (Nat.le_of_ble_eq_true rfl) dX2_noteHit_18 ⟨Nat.le_of_ble_eq_true rfl, Nat.le_of_ble_eq_true rfl⟩ [0] [] [0] rfl rfl rfl rfl rfl rfl (fun H locs hw => ?_)
    have hw : ww A s.heap D [[(a0.1, .inr (2, [.ref a0.2.1.1, .ref a0.2.2.1, .ref a0.2.2.2.1, .int o7.2.2.2]))], w9 cA a0.2.1 o7.1, [(a0.2.2.1, .inl (cA, o7.2.1.1, .inl o7.2.1.2))], w9 cA a0.2.2.2 o7.2.2.1] H locs := hw
    refine lv_aload_n hx hb dX2_noteHit_21 rfl (lv_at hl 1 rfl) ?_
    refine lv_iload_n hx hb dX2_noteHit_22 rfl (lv_at hl 2 rfl) ?_
    refine lv_iload_n hx hb dX2_noteHit_23 rfl (lv_at hl 3 rfl) ?_
    refine lv_iload_n hx hb dX2_noteHit_24 rfl (lv_at hl 4 rfl) ?_
    have hw : ww A s.heap D [w2 cA a0 o7] H locs := hw
    obtain ⟨o8, hso8, hsp⟩ := bnd_of hsp
    refine k_callV (ci := 2) (C := RX2) (T := TX2) (N := 4) (nA := 3) (As := [.int p1, .int p2, .int p3]) (cs := [w2 cA a0 o7]) (rs := []) (cs1 := [w2 cA a0 o8]) (bs1 := [w2 cA a0 o8]) (rest := []) (st1 := []) ⟨hx, hb, hml, hown, hts⟩ hz hw hA (mX2_open l D cA cR a0 o7 p1 p2 p3 o8 hso8) gX2_noteHit_X2_open rfl rfl rfl (by decide +kernel) rfl ⟨Nat.le_of_ble_eq_true rfl, Nat.le_of_ble_eq_true rfl⟩ rfl rfl hl.1 rfl (Nat.le_of_ble_eq_true rfl) dX2_noteHit_25 ⟨Nat.le_of_ble_eq_true rfl, Nat.le_of_ble_eq_true rfl⟩ [0] [] [0] rfl rfl rfl rfl rfl rfl (fun H locs hw => ?_)
    have hw : ww A s.heap D [[(a0.1, .inr (2, [.ref a0.2.1.1, .ref a0.2.2.1, .ref a0.2.2.2.1, .int o8.2.2.2]))], w9 cA a0.2.1 o8.1, [(a0.2.2.1, .inl (cA, o8.2.1.1, .inl o8.2.1.2))], w9 cA a0.2.2.2 o8.2.2.1] H locs := hw
    have hsp := Option.some.inj hsp
    subst hsp
    have hw : ww A s.heap D [w2 cA a0 o8] H locs := hw
    subst hQ
    exact k_vret hx hb hr hlk hw dX2_noteHit_28
noncomputable def sX2_noteMiss (v0 : V2) (p1 : Int32) : Option (V2) := ((sX9_get v0.2.2.1 p1 (0 : Int32)).bind (fun o1 => ((sX9_set v0.1 o1 (4 : Int32) (0 : Int32)).bind (fun o2 => ((sX9_set v0.2.2.1 p1 (0 : Int32) (-1 : Int32)).bind (fun o3 => (some (o2, v0.2.1, o3, v0.2.2.2))))))))
abbrev rX2_noteMiss : Room := { frames := 1, cells := 0, slots := 0, locals := 23 }
set_option maxHeartbeats 4000000 in
set_option maxRecDepth 100000 in
theorem mX2_noteMiss (l : Launch) (D : va_G) (cA cR : ClassId) (a0 : A2) (v0 : V2) (p1 : Int32) (o : V2) (hsp : sX2_noteMiss v0 p1 = some o) : MI l yX2_noteMiss wsX2_noteMiss rX2_noteMiss D cA cR [.ref a0.1, .int p1] [w2 cA a0 v0] none [w2 cA a0 o] 0 0 := by
  have hsp : ((sX9_get v0.2.2.1 p1 (0 : Int32)).bind (fun o1 => ((sX9_set v0.1 o1 (4 : Int32) (0 : Int32)).bind (fun o2 => ((sX9_set v0.2.2.1 p1 (0 : Int32) (-1 : Int32)).bind (fun o3 => (some (o2, v0.2.1, o3, v0.2.2.2)))))))) = some o := hsp
  refine MI.ofW (cc := cX2_noteMiss) (maxL := 2) (ret := none) (by decide) rfl (Nat.le_of_ble_eq_true rfl) ?_
  intro p e s m args below meth c A ls Q H locs hx hb hr hlk hml hown hnm hts hz hA hQ hw hl
  have hl : lv_has ls 2 [(0, .ref a0.1), (1, .int p1)] := hl
  have hw : ww A s.heap D [[(a0.1, .inr (2, [.ref a0.2.1.1, .ref a0.2.2.1, .ref a0.2.2.2.1, .int v0.2.2.2]))], w9 cA a0.2.1 v0.1, [(a0.2.2.1, .inl (cA, v0.2.1.1, .inl v0.2.1.2))], w9 cA a0.2.2.2 v0.2.2.1] H locs := hw
  refine lv_aload_n hx hb dX2_noteMiss_0 rfl (lv_at hl 0 rfl) ?_
  refine k_get (ci := 2) (v := .ref a0.2.1.1) (C := RX2) (T := TX2) (N := 4) hx hb hts hown hz hw (by decide +kernel) 0 rfl rfl 0 (by decide) (hts (.fieldLink RX2 14 "OccupancyMonitor$EventLog" "slots" "LOccupancyMonitor$Table;") (by decide +kernel)) (fun _ h9 => h9) rfl dX2_noteMiss_1 ?_
  refine lv_aload_n hx hb dX2_noteMiss_4 rfl (lv_at hl 0 rfl) ?_
  refine k_get (ci := 2) (v := .ref a0.2.2.2.1) (C := RX2) (T := TX2) (N := 4) hx hb hts hown hz hw (by decide +kernel) 0 rfl rfl 2 (by decide) (hts (.fieldLink RX2 24 "OccupancyMonitor$EventLog" "openSlots" "LOccupancyMonitor$Table;") (by decide +kernel)) (fun _ h9 => h9) rfl dX2_noteMiss_5 ?_
  refine lv_iload_n hx hb dX2_noteMiss_8 rfl (lv_at hl 1 rfl) ?_
  refine lv_iconst (v := 0) hx hb dX2_noteMiss_9 (by decide) ?_
  obtain ⟨o1, hso1, hsp⟩ := bnd_of hsp
  refine k_callV (ci := 9) (C := RX9) (T := TX9) (N := 3) (nA := 2) (As := [.int p1, .int (0 : Int32)]) (cs := [w9 cA a0.2.2.2 v0.2.2.1]) (rs := [[(a0.1, .inr (2, [.ref a0.2.1.1, .ref a0.2.2.1, .ref a0.2.2.2.1, .int v0.2.2.2]))], w9 cA a0.2.1 v0.1, [(a0.2.2.1, .inl (cA, v0.2.1.1, .inl v0.2.1.2))]]) (cs1 := [w9 cA a0.2.2.2 v0.2.2.1]) (bs1 := [[(a0.1, .inr (2, [.ref a0.2.1.1, .ref a0.2.2.1, .ref a0.2.2.2.1, .int v0.2.2.2]))], w9 cA a0.2.1 v0.1, [(a0.2.2.1, .inl (cA, v0.2.1.1, .inl v0.2.1.2))], w9 cA a0.2.2.2 v0.2.2.1]) (rest := [.ref a0.2.1.1]) (st1 := [.int o1, .ref a0.2.1.1]) ⟨hx, hb, hml, hown, hts⟩ hz hw hA (mX9_get l D cA cR a0.2.2.2 v0.2.2.1 p1 (0 : Int32) o1 hso1) gX2_noteMiss_X9_get rfl rfl rfl (by decide +kernel) rfl ⟨Nat.le_of_ble_eq_true rfl, Nat.le_of_ble_eq_true rfl⟩ rfl rfl hl.1 rfl (Nat.le_of_ble_eq_true rfl) dX2_noteMiss_10 ⟨Nat.le_of_ble_eq_true rfl, Nat.le_of_ble_eq_true rfl⟩ [3] [0, 1, 2] [0, 1, 2, 3] rfl rfl rfl rfl rfl rfl (fun H locs hw => ?_)
  refine lv_iconst (v := 4) hx hb dX2_noteMiss_13 (by decide) ?_
  refine lv_iconst (v := 0) hx hb dX2_noteMiss_14 (by decide) ?_
  obtain ⟨o2, hso2, hsp⟩ := bnd_of hsp
  refine k_callV (ci := 9) (C := RX9) (T := TX9) (N := 3) (nA := 3) (As := [.int o1, .int (4 : Int32), .int (0 : Int32)]) (cs := [w9 cA a0.2.1 v0.1]) (rs := [[(a0.1, .inr (2, [.ref a0.2.1.1, .ref a0.2.2.1, .ref a0.2.2.2.1, .int v0.2.2.2]))], [(a0.2.2.1, .inl (cA, v0.2.1.1, .inl v0.2.1.2))], w9 cA a0.2.2.2 v0.2.2.1]) (cs1 := [w9 cA a0.2.1 o2]) (bs1 := [[(a0.1, .inr (2, [.ref a0.2.1.1, .ref a0.2.2.1, .ref a0.2.2.2.1, .int v0.2.2.2]))], w9 cA a0.2.1 o2, [(a0.2.2.1, .inl (cA, v0.2.1.1, .inl v0.2.1.2))], w9 cA a0.2.2.2 v0.2.2.1]) (rest := []) (st1 := []) ⟨hx, hb, hml, hown, hts⟩ hz hw hA (mX9_set l D cA cR a0.2.1 v0.1 o1 (4 : Int32) (0 : Int32) o2 hso2) gX2_noteMiss_X9_set rfl rfl rfl (by decide +kernel) rfl ⟨Nat.le_of_ble_eq_true rfl, Nat.le_of_ble_eq_true rfl⟩ rfl rfl hl.1 rfl (Nat.le_of_ble_eq_true rfl) dX2_noteMiss_15 ⟨Nat.le_of_ble_eq_true rfl, Nat.le_of_ble_eq_true rfl⟩ [1] [0, 2, 3] [0, 3, 1, 2] rfl rfl rfl rfl rfl rfl (fun H locs hw => ?_)
  refine lv_aload_n hx hb dX2_noteMiss_18 rfl (lv_at hl 0 rfl) ?_
  refine k_get (ci := 2) (v := .ref a0.2.2.2.1) (C := RX2) (T := TX2) (N := 4) hx hb hts hown hz hw (by decide +kernel) 0 rfl rfl 2 (by decide) (hts (.fieldLink RX2 24 "OccupancyMonitor$EventLog" "openSlots" "LOccupancyMonitor$Table;") (by decide +kernel)) (fun _ h9 => h9) rfl dX2_noteMiss_19 ?_
  refine lv_iload_n hx hb dX2_noteMiss_22 rfl (lv_at hl 1 rfl) ?_
  refine lv_iconst (v := 0) hx hb dX2_noteMiss_23 (by decide) ?_
  refine lv_iconst (v := -1) hx hb dX2_noteMiss_24 (by decide) ?_
  obtain ⟨o3, hso3, hsp⟩ := bnd_of hsp
  refine k_callV (ci := 9) (C := RX9) (T := TX9) (N := 3) (nA := 3) (As := [.int p1, .int (0 : Int32), .int (-1 : Int32)]) (cs := [w9 cA a0.2.2.2 v0.2.2.1]) (rs := [[(a0.1, .inr (2, [.ref a0.2.1.1, .ref a0.2.2.1, .ref a0.2.2.2.1, .int v0.2.2.2]))], w9 cA a0.2.1 o2, [(a0.2.2.1, .inl (cA, v0.2.1.1, .inl v0.2.1.2))]]) (cs1 := [w9 cA a0.2.2.2 o3]) (bs1 := [[(a0.1, .inr (2, [.ref a0.2.1.1, .ref a0.2.2.1, .ref a0.2.2.2.1, .int v0.2.2.2]))], w9 cA a0.2.1 o2, [(a0.2.2.1, .inl (cA, v0.2.1.1, .inl v0.2.1.2))], w9 cA a0.2.2.2 o3]) (rest := []) (st1 := []) ⟨hx, hb, hml, hown, hts⟩ hz hw hA (mX9_set l D cA cR a0.2.2.2 v0.2.2.1 p1 (0 : Int32) (-1 : Int32) o3 hso3) gX2_noteMiss_X9_set rfl rfl rfl (by decide +kernel) rfl ⟨Nat.le_of_ble_eq_true rfl, Nat.le_of_ble_eq_true rfl⟩ rfl rfl hl.1 rfl (Nat.le_of_ble_eq_true rfl) dX2_noteMiss_25 ⟨Nat.le_of_ble_eq_true rfl, Nat.le_of_ble_eq_true rfl⟩ [3] [0, 1, 2] [0, 1, 2, 3] rfl rfl rfl rfl rfl rfl (fun H locs hw => ?_)
  have hsp := Option.some.inj hsp
  subst hsp
  have hw : ww A s.heap D [w2 cA a0 (o2, v0.2.1, o3, v0.2.2.2)] H locs := hw
  subst hQ
  exact k_vret hx hb hr hlk hw dX2_noteMiss_28
noncomputable def sX2_copyFrom (v0 : V2) (v1 : V2) : Option (V2) := ((sX9_copyFrom v0.1 v1.1).bind (fun o1 => (lt_ (if (nI v1.2.1.1) < (nI v0.2.1.1) then (nI v1.2.1.1) else (nI v0.2.1.1)) (fun x2 => (grd (acok (0 : Int32) (0 : Int32) x2 v1.2.1.1 v0.2.1.1) (lt_ (va_cpy v1.2.1.2 v0.2.1.2 (0 : Int32).toNatClampNeg (0 : Int32).toNatClampNeg x2.toNatClampNeg) (fun f3 => ((sX9_copyFrom v0.2.2.1 v1.2.2.1).bind (fun o5 => (some (o1, (v0.2.1.1, f3), o5, v1.2.2.2)))))))))))
abbrev rX2_copyFrom : Room := { frames := 2, cells := 0, slots := 0, locals := 47 }
set_option maxHeartbeats 4000000 in
set_option maxRecDepth 100000 in
theorem mX2_copyFrom (l : Launch) (D : va_G) (cA cR : ClassId) (a0 : A2) (v0 : V2) (a1 : A2) (v1 : V2) (o : V2) (hsp : sX2_copyFrom v0 v1 = some o) : MI l yX2_copyFrom wsX2_copyFrom rX2_copyFrom D cA cR [.ref a0.1, .ref a1.1] [w2 cA a0 v0, w2 cA a1 v1] none [w2 cA a0 o, w2 cA a1 v1] 0 0 := by
  have hsp : ((sX9_copyFrom v0.1 v1.1).bind (fun o1 => (lt_ (if (nI v1.2.1.1) < (nI v0.2.1.1) then (nI v1.2.1.1) else (nI v0.2.1.1)) (fun x2 => (grd (acok (0 : Int32) (0 : Int32) x2 v1.2.1.1 v0.2.1.1) (lt_ (va_cpy v1.2.1.2 v0.2.1.2 (0 : Int32).toNatClampNeg (0 : Int32).toNatClampNeg x2.toNatClampNeg) (fun f3 => ((sX9_copyFrom v0.2.2.1 v1.2.2.1).bind (fun o5 => (some (o1, (v0.2.1.1, f3), o5, v1.2.2.2))))))))))) = some o := hsp
  refine MI.ofW (cc := cX2_copyFrom) (maxL := 2) (ret := none) (by decide) rfl (Nat.le_of_ble_eq_true rfl) ?_
  intro p e s m args below meth c A ls Q H locs hx hb hr hlk hml hown hnm hts hz hA hQ hw hl
  have hl : lv_has ls 2 [(0, .ref a0.1), (1, .ref a1.1)] := hl
  have hw : ww A s.heap D [[(a0.1, .inr (2, [.ref a0.2.1.1, .ref a0.2.2.1, .ref a0.2.2.2.1, .int v0.2.2.2]))], w9 cA a0.2.1 v0.1, [(a0.2.2.1, .inl (cA, v0.2.1.1, .inl v0.2.1.2))], w9 cA a0.2.2.2 v0.2.2.1, [(a1.1, .inr (2, [.ref a1.2.1.1, .ref a1.2.2.1, .ref a1.2.2.2.1, .int v1.2.2.2]))], w9 cA a1.2.1 v1.1, [(a1.2.2.1, .inl (cA, v1.2.1.1, .inl v1.2.1.2))], w9 cA a1.2.2.2 v1.2.2.1] H locs := hw
  refine lv_aload_n hx hb dX2_copyFrom_0 rfl (lv_at hl 0 rfl) ?_
  refine k_get (ci := 2) (v := .ref a0.2.1.1) (C := RX2) (T := TX2) (N := 4) hx hb hts hown hz hw (by decide +kernel) 0 rfl rfl 0 (by decide) (hts (.fieldLink RX2 14 "OccupancyMonitor$EventLog" "slots" "LOccupancyMonitor$Table;") (by decide +kernel)) (fun _ h9 => h9) rfl dX2_copyFrom_1 ?_
  refine lv_aload_n hx hb dX2_copyFrom_4 rfl (lv_at hl 1 rfl) ?_
  refine k_get (ci := 2) (v := .ref a1.2.1.1) (C := RX2) (T := TX2) (N := 4) hx hb hts hown hz hw (by decide +kernel) 4 rfl rfl 0 (by decide) (hts (.fieldLink RX2 14 "OccupancyMonitor$EventLog" "slots" "LOccupancyMonitor$Table;") (by decide +kernel)) (fun _ h9 => h9) rfl dX2_copyFrom_5 ?_
  obtain ⟨o1, hso1, hsp⟩ := bnd_of hsp
  refine k_callV (ci := 9) (C := RX9) (T := TX9) (N := 3) (nA := 1) (As := [.ref a1.2.1.1]) (cs := [w9 cA a0.2.1 v0.1, w9 cA a1.2.1 v1.1]) (rs := [[(a0.1, .inr (2, [.ref a0.2.1.1, .ref a0.2.2.1, .ref a0.2.2.2.1, .int v0.2.2.2]))], [(a0.2.2.1, .inl (cA, v0.2.1.1, .inl v0.2.1.2))], w9 cA a0.2.2.2 v0.2.2.1, [(a1.1, .inr (2, [.ref a1.2.1.1, .ref a1.2.2.1, .ref a1.2.2.2.1, .int v1.2.2.2]))], [(a1.2.2.1, .inl (cA, v1.2.1.1, .inl v1.2.1.2))], w9 cA a1.2.2.2 v1.2.2.1]) (cs1 := [w9 cA a0.2.1 o1, w9 cA a1.2.1 v1.1]) (bs1 := [[(a0.1, .inr (2, [.ref a0.2.1.1, .ref a0.2.2.1, .ref a0.2.2.2.1, .int v0.2.2.2]))], w9 cA a0.2.1 o1, [(a0.2.2.1, .inl (cA, v0.2.1.1, .inl v0.2.1.2))], w9 cA a0.2.2.2 v0.2.2.1, [(a1.1, .inr (2, [.ref a1.2.1.1, .ref a1.2.2.1, .ref a1.2.2.2.1, .int v1.2.2.2]))], w9 cA a1.2.1 v1.1, [(a1.2.2.1, .inl (cA, v1.2.1.1, .inl v1.2.1.2))], w9 cA a1.2.2.2 v1.2.2.1]) (rest := []) (st1 := []) ⟨hx, hb, hml, hown, hts⟩ hz hw hA (mX9_copyFrom l D cA cR a0.2.1 v0.1 a1.2.1 v1.1 o1 hso1) gX2_copyFrom_X9_copyFrom rfl rfl rfl (by decide +kernel) rfl ⟨Nat.le_of_ble_eq_true rfl, Nat.le_of_ble_eq_true rfl⟩ rfl rfl hl.1 rfl (Nat.le_of_ble_eq_true rfl) dX2_copyFrom_8 ⟨Nat.le_of_ble_eq_true rfl, Nat.le_of_ble_eq_true rfl⟩ [1, 5] [0, 2, 3, 4, 6, 7] [0, 6, 1, 2, 3, 7, 4, 5] rfl rfl rfl rfl rfl rfl (fun H locs hw => ?_)
  refine lv_aload_n hx hb dX2_copyFrom_11 rfl (lv_at hl 1 rfl) ?_
  refine k_get (ci := 2) (v := .ref a1.2.2.1) (C := RX2) (T := TX2) (N := 4) hx hb hts hown hz hw (by decide +kernel) 4 rfl rfl 1 (by decide) (hts (.fieldLink RX2 20 "OccupancyMonitor$EventLog" "order" "[I") (by decide +kernel)) (fun _ h9 => h9) rfl dX2_copyFrom_12 ?_
  refine lv_iconst (v := 0) hx hb dX2_copyFrom_15 (by decide) ?_
  refine lv_aload_n hx hb dX2_copyFrom_16 rfl (lv_at hl 0 rfl) ?_
  refine k_get (ci := 2) (v := .ref a0.2.2.1) (C := RX2) (T := TX2) (N := 4) hx hb hts hown hz hw (by decide +kernel) 0 rfl rfl 1 (by decide) (hts (.fieldLink RX2 20 "OccupancyMonitor$EventLog" "order" "[I") (by decide +kernel)) (fun _ h9 => h9) rfl dX2_copyFrom_17 ?_
  refine lv_iconst (v := 0) hx hb dX2_copyFrom_20 (by decide) ?_
  refine lv_aload_n hx hb dX2_copyFrom_21 rfl (lv_at hl 0 rfl) ?_
  refine k_get (ci := 2) (v := .ref a0.2.2.1) (C := RX2) (T := TX2) (N := 4) hx hb hts hown hz hw (by decide +kernel) 0 rfl rfl 1 (by decide) (hts (.fieldLink RX2 20 "OccupancyMonitor$EventLog" "order" "[I") (by decide +kernel)) (fun _ h9 => h9) rfl dX2_copyFrom_22 ?_
  refine k_alen hx hb hz hw 2 rfl dX2_copyFrom_25 ?_
  refine lv_aload_n hx hb dX2_copyFrom_26 rfl (lv_at hl 1 rfl) ?_
  refine k_get (ci := 2) (v := .ref a1.2.2.1) (C := RX2) (T := TX2) (N := 4) hx hb hts hown hz hw (by decide +kernel) 4 rfl rfl 1 (by decide) (hts (.fieldLink RX2 20 "OccupancyMonitor$EventLog" "order" "[I") (by decide +kernel)) (fun _ h9 => h9) rfl dX2_copyFrom_27 ?_
  refine k_alen hx hb hz hw 6 rfl dX2_copyFrom_30 ?_
  refine va_mmin hx hb (by rw [hml]; exact hl.1.symm) hown (hts (.methodLink RX2 63 Lib.Math.min.name) (by decide +kernel)) (hts (.static Lib.Math.min.name) (by decide +kernel)) (hts (.initialized "java/lang/Math") (by decide +kernel)) (hts (.code Lib.Math.min.name Lib.Math.min.code 2 (some .int)) (by decide +kernel)) (Nat.le_of_ble_eq_true rfl) (Nat.le_of_ble_eq_true rfl) (Nat.le_of_ble_eq_true rfl) (Nat.le_of_ble_eq_true rfl) dX2_copyFrom_31 ?_
  refine lv_topi (fun x2 ex2 => ?_)
  have hsp := lt_of hsp ex2
  obtain ⟨g4, hsp⟩ := grd_of hsp
  obtain ⟨f3, ef3⟩ : ∃ u : Nat → Int32, u = (va_cpy v1.2.1.2 v0.2.1.2 (0 : Int32).toNatClampNeg (0 : Int32).toNatClampNeg x2.toNatClampNeg) := ⟨_, rfl⟩
  have hsp := lt_of hsp ef3
  refine k_acopy (bs1 := [[(a0.1, .inr (2, [.ref a0.2.1.1, .ref a0.2.2.1, .ref a0.2.2.2.1, .int v0.2.2.2]))], w9 cA a0.2.1 o1, [(a0.2.2.1, .inl (cA, v0.2.1.1, .inl f3))], w9 cA a0.2.2.2 v0.2.2.1, [(a1.1, .inr (2, [.ref a1.2.1.1, .ref a1.2.2.1, .ref a1.2.2.2.1, .int v1.2.2.2]))], w9 cA a1.2.1 v1.1, [(a1.2.2.1, .inl (cA, v1.2.1.1, .inl v1.2.1.2))], w9 cA a1.2.2.2 v1.2.2.1]) hx hb (by rw [hml]; exact hl.1.symm) hown (hts (.methodLink RX2 53 arraycopyName) (by decide +kernel)) (hts (.native arraycopyName) (by decide +kernel)) (hts (.static arraycopyName) (by decide +kernel)) (hts (.initialized "java/lang/System") (by decide +kernel)) hz hw 6 2 rfl rfl g4 (Nat.le_of_ble_eq_true rfl) (Nat.le_of_ble_eq_true rfl) dX2_copyFrom_34 (by rw [ef3]; rfl) (fun H locs hw => ?_)
  refine lv_aload_n hx hb dX2_copyFrom_37 rfl (lv_at hl 0 rfl) ?_
  refine k_get (ci := 2) (v := .ref a0.2.2.2.1) (C := RX2) (T := TX2) (N := 4) hx hb hts hown hz hw (by decide +kernel) 0 rfl rfl 2 (by decide) (hts (.fieldLink RX2 24 "OccupancyMonitor$EventLog" "openSlots" "LOccupancyMonitor$Table;") (by decide +kernel)) (fun _ h9 => h9) rfl dX2_copyFrom_38 ?_
  refine lv_aload_n hx hb dX2_copyFrom_41 rfl (lv_at hl 1 rfl) ?_
  refine k_get (ci := 2) (v := .ref a1.2.2.2.1) (C := RX2) (T := TX2) (N := 4) hx hb hts hown hz hw (by decide +kernel) 4 rfl rfl 2 (by decide) (hts (.fieldLink RX2 24 "OccupancyMonitor$EventLog" "openSlots" "LOccupancyMonitor$Table;") (by decide +kernel)) (fun _ h9 => h9) rfl dX2_copyFrom_42 ?_
  obtain ⟨o5, hso5, hsp⟩ := bnd_of hsp
  refine k_callV (ci := 9) (C := RX9) (T := TX9) (N := 3) (nA := 1) (As := [.ref a1.2.2.2.1]) (cs := [w9 cA a0.2.2.2 v0.2.2.1, w9 cA a1.2.2.2 v1.2.2.1]) (rs := [[(a0.1, .inr (2, [.ref a0.2.1.1, .ref a0.2.2.1, .ref a0.2.2.2.1, .int v0.2.2.2]))], w9 cA a0.2.1 o1, [(a0.2.2.1, .inl (cA, v0.2.1.1, .inl f3))], [(a1.1, .inr (2, [.ref a1.2.1.1, .ref a1.2.2.1, .ref a1.2.2.2.1, .int v1.2.2.2]))], w9 cA a1.2.1 v1.1, [(a1.2.2.1, .inl (cA, v1.2.1.1, .inl v1.2.1.2))]]) (cs1 := [w9 cA a0.2.2.2 o5, w9 cA a1.2.2.2 v1.2.2.1]) (bs1 := [[(a0.1, .inr (2, [.ref a0.2.1.1, .ref a0.2.2.1, .ref a0.2.2.2.1, .int v0.2.2.2]))], w9 cA a0.2.1 o1, [(a0.2.2.1, .inl (cA, v0.2.1.1, .inl f3))], w9 cA a0.2.2.2 o5, [(a1.1, .inr (2, [.ref a1.2.1.1, .ref a1.2.2.1, .ref a1.2.2.2.1, .int v1.2.2.2]))], w9 cA a1.2.1 v1.1, [(a1.2.2.1, .inl (cA, v1.2.1.1, .inl v1.2.1.2))], w9 cA a1.2.2.2 v1.2.2.1]) (rest := []) (st1 := []) ⟨hx, hb, hml, hown, hts⟩ hz hw hA (mX9_copyFrom l D cA cR a0.2.2.2 v0.2.2.1 a1.2.2.2 v1.2.2.1 o5 hso5) gX2_copyFrom_X9_copyFrom rfl rfl rfl (by decide +kernel) rfl ⟨Nat.le_of_ble_eq_true rfl, Nat.le_of_ble_eq_true rfl⟩ rfl rfl hl.1 rfl (Nat.le_of_ble_eq_true rfl) dX2_copyFrom_45 ⟨Nat.le_of_ble_eq_true rfl, Nat.le_of_ble_eq_true rfl⟩ [3, 7] [0, 1, 2, 4, 5, 6] [0, 1, 2, 6, 3, 4, 5, 7] rfl rfl rfl rfl rfl rfl (fun H locs hw => ?_)
  refine lv_aload_n hx hb dX2_copyFrom_48 rfl (lv_at hl 0 rfl) ?_
  refine lv_aload_n hx hb dX2_copyFrom_49 rfl (lv_at hl 1 rfl) ?_
  refine k_get (ci := 2) (v := .int v1.2.2.2) (C := RX2) (T := TX2) (N := 4) hx hb hts hown hz hw (by decide +kernel) 4 rfl rfl 3 (by decide) (hts (.fieldLink RX2 31 "OccupancyMonitor$EventLog" "count" "I") (by decide +kernel)) (fun _ h9 => h9) rfl dX2_copyFrom_50 ?_
  refine k_put (ci := 2) (v := .int v1.2.2.2) (ty := .int) (C := RX2) (T := TX2) (N := 4) (bs1 := [[(a0.1, .inr (2, [.ref a0.2.1.1, .ref a0.2.2.1, .ref a0.2.2.2.1, .int v1.2.2.2]))], w9 cA a0.2.1 o1, [(a0.2.2.1, .inl (cA, v0.2.1.1, .inl f3))], w9 cA a0.2.2.2 o5, [(a1.1, .inr (2, [.ref a1.2.1.1, .ref a1.2.2.1, .ref a1.2.2.2.1, .int v1.2.2.2]))], w9 cA a1.2.1 v1.1, [(a1.2.2.1, .inl (cA, v1.2.1.1, .inl v1.2.1.2))], w9 cA a1.2.2.2 v1.2.2.1]) hx hb hts hown hz hw (by decide +kernel) tyX2 tyX2_ok nmX2 0 rfl rfl 3 (by decide) (hts (.fieldLink RX2 31 "OccupancyMonitor$EventLog" "count" "I") (by decide +kernel)) (fun _ h9 => h9) rfl (by decide +kernel) rfl rfl (Nat.le_of_ble_eq_true rfl) dX2_copyFrom_53 rfl (fun H locs hw => ?_)
  have hsp := Option.some.inj hsp
  subst hsp
  have hw : ww A s.heap D [w2 cA a0 (o1, (v0.2.1.1, f3), o5, v1.2.2.2), w2 cA a1 v1] H locs := hw
  subst hQ
  exact k_vret hx hb hr hlk hw dX2_copyFrom_56
