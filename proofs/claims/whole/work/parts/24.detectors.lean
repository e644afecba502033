noncomputable def qX1_clear_10  : Nat → Int32 → V9 → Option (Int32 × V9)
  | 0, _, _ => none
  | n10 + 1, z10_0, z10_1 => (if (32 : Int32) ≤ z10_0 then (some (z10_0, z10_1)) else ((sX9_set z10_1 z10_0 (2 : Int32) (-1 : Int32)).bind (fun o8 => (qX1_clear_10 n10 (z10_0 + 1) o8))))
noncomputable def sX1_clear (N : Nat) (v0 : V1) : Option (V1) := ((sX9_fill N v0.1 (0 : Int32)).bind (fun o1 => ((qX1_clear_10 N (0 : Int32) o1).bind (fun o6 => (some (o6.2, v0.2.1, v0.2.2))))))
abbrev rX1_clear : Room := { frames := 2, cells := 0, slots := 0, locals := 44 }
set_option maxHeartbeats 4000000 in
set_option maxRecDepth 100000 in
theorem mX1_clear (l : Launch) (D : va_G) (cA cR : ClassId) (N : Nat) (a0 : A1) (v0 : V1) (o : V1) (hsp : sX1_clear N v0 = some o) : MI l yX1_clear wsX1_clear rX1_clear D cA cR [.ref a0.1] [w1 cA a0 v0] none [w1 cA a0 o] 0 0 := by
  have hsp : ((sX9_fill N v0.1 (0 : Int32)).bind (fun o1 => ((qX1_clear_10 N (0 : Int32) o1).bind (fun o6 => (some (o6.2, v0.2.1, v0.2.2)))))) = some o := hsp
  refine MI.ofW (cc := cX1_clear) (maxL := 2) (ret := none) (by decide) rfl (Nat.le_of_ble_eq_true rfl) ?_
  intro p e s m args below meth c A ls Q H locs hx hb hr hlk hml hown hnm hts hz hA hQ hw hl
  have hl : lv_has ls 2 [(0, .ref a0.1)] := hl
  have hw : ww A s.heap D [[(a0.1, .inr (1, [.ref a0.2.1.1, .ref a0.2.2.1.1, .ref a0.2.2.2.1]))], w9 cA a0.2.1 v0.1, w9 cA a0.2.2.1 v0.2.1, w9 cA a0.2.2.2 v0.2.2] H locs := hw
  refine lv_aload_n hx hb dX1_clear_0 rfl (lv_at hl 0 rfl) ?_
  refine k_get (ci := 1) (v := .ref a0.2.1.1) (C := RX1) (T := TX1) (N := 3) hx hb hts hown hz hw (by decide +kernel) 0 rfl rfl 0 (by decide) (hts (.fieldLink RX1 14 "OccupancyMonitor$Detectors" "table" "LOccupancyMonitor$Table;") (by decide +kernel)) (fun _ h9 => h9) rfl dX1_clear_1 ?_
  refine lv_iconst (v := 0) hx hb dX1_clear_4 (by decide) ?_
  obtain ⟨o1, hso1, hsp⟩ := bnd_of hsp
  refine k_callV (ci := 9) (C := RX9) (T := TX9) (N := 3) (nA := 1) (As := [.int (0 : Int32)]) (cs := [w9 cA a0.2.1 v0.1]) (rs := [[(a0.1, .inr (1, [.ref a0.2.1.1, .ref a0.2.2.1.1, .ref a0.2.2.2.1]))], w9 cA a0.2.2.1 v0.2.1, w9 cA a0.2.2.2 v0.2.2]) (cs1 := [w9 cA a0.2.1 o1]) (bs1 := [[(a0.1, .inr (1, [.ref a0.2.1.1, .ref a0.2.2.1.1, .ref a0.2.2.2.1]))], w9 cA a0.2.1 o1, w9 cA a0.2.2.1 v0.2.1, w9 cA a0.2.2.2 v0.2.2]) (rest := []) (st1 := []) ⟨hx, hb, hml, hown, hts⟩ hz hw hA (mX9_fill l D cA cR N a0.2.1 v0.1 (0 : Int32) o1 hso1) gX1_clear_X9_fill rfl rfl rfl (by decide +kernel) rfl ⟨Nat.le_of_ble_eq_true rfl, Nat.le_of_ble_eq_true rfl⟩ rfl rfl hl.1 rfl (Nat.le_of_ble_eq_true rfl) dX1_clear_5 ⟨Nat.le_of_ble_eq_true rfl, Nat.le_of_ble_eq_true rfl⟩ [1] [0, 2, 3] [0, 3, 1, 2] rfl rfl rfl rfl rfl rfl (fun H locs hw => ?_)
  refine lv_iconst (v := 0) hx hb dX1_clear_8 (by decide) ?_
  refine lv_istore_n (lv' := [(1, .int (0 : Int32)), (0, .ref a0.1)]) hx hb dX1_clear_9 rfl hl (by decide) rfl (fun ls hl => ?_)
  have L10 : ∀ (n10 : Nat) (z10_0 : Int32) (z10_1 : V9) (o6 : Int32 × V9), qX1_clear_10 n10 z10_0 z10_1 = some o6 → ∀ (H : Heap) (locs : List Loc) (ls : Array Slot), ww A s.heap D [[(a0.1, .inr (1, [.ref a0.2.1.1, .ref a0.2.2.1.1, .ref a0.2.2.2.1]))], w9 cA a0.2.1 z10_1, w9 cA a0.2.2.1 v0.2.1, w9 cA a0.2.2.2 v0.2.2] H locs → lv_has ls 2 [(0, .ref a0.1), (1, .int z10_0)] → (∀ (y32 : Int32 × V9), o6 = y32 → ∀ (H : Heap) (locs : List Loc) (ls : Array Slot), ww A s.heap D [[(a0.1, .inr (1, [.ref a0.2.1.1, .ref a0.2.2.1.1, .ref a0.2.2.2.1]))], w9 cA a0.2.1 y32.2, w9 cA a0.2.2.1 v0.2.1, w9 cA a0.2.2.2 v0.2.2] H locs → lv_has ls 2 [(0, .ref a0.1), (1, .int y32.1)] → W p l e rX1_clear s m args below meth c H locs 0 0 Q (F0 m 32 ls [])) → W p l e rX1_clear s m args below meth c H locs 0 0 Q (F0 m 10 ls []) := by
    intro n10
    induction n10 with
    | zero => intro z10_0 z10_1 o6 hsp; cases hsp
    | succ n10 ih10 =>
      intro z10_0 z10_1 o6 hsp H locs ls hw hl kx10_32
      have hsp : (if (32 : Int32) ≤ z10_0 then (some (z10_0, z10_1)) else ((sX9_set z10_1 z10_0 (2 : Int32) (-1 : Int32)).bind (fun o8 => (qX1_clear_10 n10 (z10_0 + 1) o8)))) = some o6 := hsp
      refine lv_iload_n hx hb dX1_clear_10 rfl (lv_at hl 1 rfl) ?_
      refine lv_bipush (v := 32) hx hb dX1_clear_11 (by decide) ?_
      refine lv_icmp_ge (tgt := 32) hx hb dX1_clear_13 (by decide) (fun c7 => ?_) (fun c7 => ?_)
      · have hsp := ift c7 hsp
        have hsp := Option.some.inj hsp
        subst hsp
        exact kx10_32 _ rfl _ _ _ hw (lv_sub hl [0, 1] rfl)
      · have hsp := iff_ c7 hsp
        refine lv_aload_n hx hb dX1_clear_16 rfl (lv_at hl 0 rfl) ?_
        refine k_get (ci := 1) (v := .ref a0.2.1.1) (C := RX1) (T := TX1) (N := 3) hx hb hts hown hz hw (by decide +kernel) 0 rfl rfl 0 (by decide) (hts (.fieldLink RX1 14 "OccupancyMonitor$Detectors" "table" "LOccupancyMonitor$Table;") (by decide +kernel)) (fun _ h9 => h9) rfl dX1_clear_17 ?_
        refine lv_iload_n hx hb dX1_clear_20 rfl (lv_at hl 1 rfl) ?_
        refine lv_iconst (v := 2) hx hb dX1_clear_21 (by decide) ?_
        refine lv_iconst (v := -1) hx hb dX1_clear_22 (by decide) ?_
        obtain ⟨o8, hso8, hsp⟩ := bnd_of hsp
        refine k_callV (ci := 9) (C := RX9) (T := TX9) (N := 3) (nA := 3) (As := [.int z10_0, .int (2 : Int32), .int (-1 : Int32)]) (cs := [w9 cA a0.2.1 z10_1]) (rs := [[(a0.1, .inr (1, [.ref a0.2.1.1, .ref a0.2.2.1.1, .ref a0.2.2.2.1]))], w9 cA a0.2.2.1 v0.2.1, w9 cA a0.2.2.2 v0.2.2]) (cs1 := [w9 cA a0.2.1 o8]) (bs1 := [[(a0.1, .inr (1, [.ref a0.2.1.1, .ref a0.2.2.1.1, .ref a0.2.2.2.1]))], w9 cA a0.2.1 o8, w9 cA a0.2.2.1 v0.2.1, w9 cA a0.2.2.2 v0.2.2]) (rest := []) (st1 := []) ⟨hx, hb, hml, hown, hts⟩ hz hw hA (mX9_set l D cA cR a0.2.1 z10_1 z10_0 (2 : Int32) (-1 : Int32) o8 hso8) gX1_clear_X9_set rfl rfl rfl (by decide +kernel) rfl ⟨Nat.le_of_ble_eq_true rfl, Nat.le_of_ble_eq_true rfl⟩ rfl rfl hl.1 rfl (Nat.le_of_ble_eq_true rfl) dX1_clear_23 ⟨Nat.le_of_ble_eq_true rfl, Nat.le_of_ble_eq_true rfl⟩ [1] [0, 2, 3] [0, 3, 1, 2] rfl rfl rfl rfl rfl rfl (fun H locs hw => ?_)
        refine lv_iinc (v := (z10_0 + 1)) (lv' := [(1, .int (z10_0 + 1)), (0, .ref a0.1)]) hx hb dX1_clear_26 hl (k := 1) rfl rfl (by decide) rfl (fun ls hl => ?_)
        refine lv_goto (tgt := 10) hx hb dX1_clear_29 (by decide) ?_
        exact ih10 (z10_0 + 1) o8 _ hsp _ _ _ hw (lv_sub hl [1, 0] rfl) kx10_32
  obtain ⟨o6, hso6, hsp⟩ := bnd_of hsp
  refine L10 N (0 : Int32) o1 _ hso6 _ _ _ hw (lv_sub hl [1, 0] rfl) (fun y32 hy32 H locs ls hw hl => ?_)
  cases hy32
  have hsp := Option.some.inj hsp
  subst hsp
  have hw : ww A s.heap D [w1 cA a0 (o6.2, v0.2.1, v0.2.2)] H locs := hw
  subst hQ
  exact k_vret hx hb hr hlk hw dX1_clear_32
noncomputable def sX1_maskOf (v0 : V1) (p1 : Int32) : Option (Int32) := ((sX9_get v0.2.2 p1 (0 : Int32)).bind (fun o1 => (some o1)))
abbrev rX1_maskOf : Room := { frames := 1, cells := 0, slots := 0, locals := 22 }
set_option maxHeartbeats 4000000 in
set_option maxRecDepth 100000 in
theorem mX1_maskOf (l : Launch) (D : va_G) (cA cR : ClassId) (a0 : A1) (v0 : V1) (p1 : Int32) (o : Int32) (hsp : sX1_maskOf v0 p1 = some o) : MI l yX1_maskOf wsX1_maskOf rX1_maskOf D cA cR [.ref a0.1, .int p1] [w1 cA a0 v0] (some (.int o)) [w1 cA a0 v0] 0 0 := by
  have hsp : ((sX9_get v0.2.2 p1 (0 : Int32)).bind (fun o1 => (some o1))) = some o := hsp
  refine MI.ofW (cc := cX1_maskOf) (maxL := 2) (ret := (some .int)) (by decide) rfl (Nat.le_of_ble_eq_true rfl) ?_
  intro p e s m args below meth c A ls Q H locs hx hb hr hlk hml hown hnm hts hz hA hQ hw hl
  have hl : lv_has ls 2 [(0, .ref a0.1), (1, .int p1)] := hl
  have hw : ww A s.heap D [[(a0.1, .inr (1, [.ref a0.2.1.1, .ref a0.2.2.1.1, .ref a0.2.2.2.1]))], w9 cA a0.2.1 v0.1, w9 cA a0.2.2.1 v0.2.1, w9 cA a0.2.2.2 v0.2.2] H locs := hw
  refine lv_aload_n hx hb dX1_maskOf_0 rfl (lv_at hl 0 rfl) ?_
  refine k_get (ci := 1) (v := .ref a0.2.2.2.1) (C := RX1) (T := TX1) (N := 3) hx hb hts hown hz hw (by decide +kernel) 0 rfl rfl 2 (by decide) (hts (.fieldLink RX1 23 "OccupancyMonitor$Detectors" "masks" "LOccupancyMonitor$Table;") (by decide +kernel)) (fun _ h9 => h9) rfl dX1_maskOf_1 ?_
  refine lv_iload_n hx hb dX1_maskOf_4 rfl (lv_at hl 1 rfl) ?_
  refine lv_iconst (v := 0) hx hb dX1_maskOf_5 (by decide) ?_
  obtain ⟨o1, hso1, hsp⟩ := bnd_of hsp
  refine k_callV (ci := 9) (C := RX9) (T := TX9) (N := 3) (nA := 2) (As := [.int p1, .int (0 : Int32)]) (cs := [w9 cA a0.2.2.2 v0.2.2]) (rs := [[(a0.1, .inr (1, [.ref a0.2.1.1, .ref a0.2.2.1.1, .ref a0.2.2.2.1]))], w9 cA a0.2.1 v0.1, w9 cA a0.2.2.1 v0.2.1]) (cs1 := [w9 cA a0.2.2.2 v0.2.2]) (bs1 := [[(a0.1, .inr (1, [.ref a0.2.1.1, .ref a0.2.2.1.1, .ref a0.2.2.2.1]))], w9 cA a0.2.1 v0.1, w9 cA a0.2.2.1 v0.2.1, w9 cA a0.2.2.2 v0.2.2]) (rest := []) (st1 := [.int o1]) ⟨hx, hb, hml, hown, hts⟩ hz hw hA (mX9_get l D cA cR a0.2.2.2 v0.2.2 p1 (0 : Int32) o1 hso1) gX1_maskOf_X9_get rfl rfl rfl (by decide +kernel) rfl ⟨Nat.le_of_ble_eq_true rfl, Nat.le_of_ble_eq_true rfl⟩ rfl rfl hl.1 rfl (Nat.le_of_ble_eq_true rfl) dX1_maskOf_6 ⟨Nat.le_of_ble_eq_true rfl, Nat.le_of_ble_eq_true rfl⟩ [3] [0, 1, 2] [0, 1, 2, 3] rfl rfl rfl rfl rfl rfl (fun H locs hw => ?_)
  have hsp := Option.some.inj hsp
  subst hsp
  have hw : ww A s.heap D [w1 cA a0 v0] H locs := hw
  subst hQ
  exact k_iret hx hb hr hlk hw dX1_maskOf_9
noncomputable def qX1_mask_3 (p2 : Int32) (p3 : Int32) : Nat → Int32 → V9 → Option (Int32 × V9)
  | 0, _, _ => none
  | n3 + 1, z3_0, z3_1 => (if p2 < z3_0 then (some (z3_0, z3_1)) else ((sX9_set z3_1 z3_0 (0 : Int32) p3).bind (fun o7 => (qX1_mask_3 p2 p3 n3 (z3_0 + 1) o7))))
noncomputable def sX1_mask (N : Nat) (v0 : V1) (p1 : Int32) (p2 : Int32) (p3 : Int32) : Option (V1) := ((qX1_mask_3 p2 p3 N p1 v0.2.2).bind (fun o5 => (some (v0.1, v0.2.1, o5.2))))
abbrev rX1_mask : Room := { frames := 1, cells := 0, slots := 0, locals := 23 }
set_option maxHeartbeats 4000000 in
set_option maxRecDepth 100000 in
theorem mX1_mask (l : Launch) (D : va_G) (cA cR : ClassId) (N : Nat) (a0 : A1) (v0 : V1) (p1 : Int32) (p2 : Int32) (p3 : Int32) (o : V1) (hsp : sX1_mask N v0 p1 p2 p3 = some o) : MI l yX1_mask wsX1_mask rX1_mask D cA cR [.ref a0.1, .int p1, .int p2, .int p3] [w1 cA a0 v0] none [w1 cA a0 o] 0 0 := by
  have hsp : ((qX1_mask_3 p2 p3 N p1 v0.2.2).bind (fun o5 => (some (v0.1, v0.2.1, o5.2)))) = some o := hsp
  refine MI.ofW (cc := cX1_mask) (maxL := 5) (ret := none) (by decide) rfl (Nat.le_of_ble_eq_true rfl) ?_
  intro p e s m args below meth c A ls Q H locs hx hb hr hlk hml hown hnm hts hz hA hQ hw hl
  have hl : lv_has ls 5 [(0, .ref a0.1), (1, .int p1), (2, .int p2), (3, .int p3)] := hl
  have hw : ww A s.heap D [[(a0.1, .inr (1, [.ref a0.2.1.1, .ref a0.2.2.1.1, .ref a0.2.2.2.1]))], w9 cA a0.2.1 v0.1, w9 cA a0.2.2.1 v0.2.1, w9 cA a0.2.2.2 v0.2.2] H locs := hw
  refine lv_iload_n hx hb dX1_mask_0 rfl (lv_at hl 1 rfl) ?_
  refine lv_istore (lv' := [(4, .int p1), (0, .ref a0.1), (1, .int p1), (2, .int p2), (3, .int p3)]) hx hb dX1_mask_1 hl (by decide) rfl (fun ls hl => ?_)
  have L3 : ∀ (n3 : Nat) (z3_0 : Int32) (z3_1 : V9) (o5 : Int32 × V9), qX1_mask_3 p2 p3 n3 z3_0 z3_1 = some o5 → ∀ (H : Heap) (locs : List Loc) (ls : Array Slot), ww A s.heap D [[(a0.1, .inr (1, [.ref a0.2.1.1, .ref a0.2.2.1.1, .ref a0.2.2.2.1]))], w9 cA a0.2.1 v0.1, w9 cA a0.2.2.1 v0.2.1, w9 cA a0.2.2.2 z3_1] H locs → lv_has ls 5 [(0, .ref a0.1), (1, .int p1), (2, .int p2), (3, .int p3), (4, .int z3_0)] → (∀ (y26 : Int32 × V9), o5 = y26 → ∀ (H : Heap) (locs : List Loc) (ls : Array Slot), ww A s.heap D [[(a0.1, .inr (1, [.ref a0.2.1.1, .ref a0.2.2.1.1, .ref a0.2.2.2.1]))], w9 cA a0.2.1 v0.1, w9 cA a0.2.2.1 v0.2.1, w9 cA a0.2.2.2 y26.2] H locs → lv_has ls 5 [(0, .ref a0.1), (1, .int p1), (2, .int p2), (3, .int p3), (4, .int y26.1)] → W p l e rX1_mask s m args below meth c H locs 0 0 Q (F0 m 26 ls [])) → W p l e rX1_mask s m args below meth c H locs 0 0 Q (F0 m 3 ls []) := by
    intro n3
    induction n3 with
    | zero => intro z3_0 z3_1 o5 hsp; cases hsp
    | succ n3 ih3 =>
      intro z3_0 z3_1 o5 hsp H locs ls hw hl kx3_26
      have hsp : (if p2 < z3_0 then (some (z3_0, z3_1)) else ((sX9_set z3_1 z3_0 (0 : Int32) p3).bind (fun o7 => (qX1_mask_3 p2 p3 n3 (z3_0 + 1) o7)))) = some o5 := hsp
      refine lv_iload hx hb dX1_mask_3 (lv_at hl 4 rfl) ?_
      refine lv_iload_n hx hb dX1_mask_5 rfl (lv_at hl 2 rfl) ?_
      refine lv_icmp_gt (tgt := 26) hx hb dX1_mask_6 (by decide) (fun c6 => ?_) (fun c6 => ?_)
      · have hsp := ift c6 hsp
        have hsp := Option.some.inj hsp
        subst hsp
        exact kx3_26 _ rfl _ _ _ hw (lv_sub hl [0, 1, 2, 3, 4] rfl)
      · have hsp := iff_ c6 hsp
        refine lv_aload_n hx hb dX1_mask_9 rfl (lv_at hl 0 rfl) ?_
        refine k_get (ci := 1) (v := .ref a0.2.2.2.1) (C := RX1) (T := TX1) (N := 3) hx hb hts hown hz hw (by decide +kernel) 0 rfl rfl 2 (by decide) (hts (.fieldLink RX1 23 "OccupancyMonitor$Detectors" "masks" "LOccupancyMonitor$Table;") (by decide +kernel)) (fun _ h9 => h9) rfl dX1_mask_10 ?_
        refine lv_iload hx hb dX1_mask_13 (lv_at hl 4 rfl) ?_
        refine lv_iconst (v := 0) hx hb dX1_mask_15 (by decide) ?_
        refine lv_iload_n hx hb dX1_mask_16 rfl (lv_at hl 3 rfl) ?_
        obtain ⟨o7, hso7, hsp⟩ := bnd_of hsp
        refine k_callV (ci := 9) (C := RX9) (T := TX9) (N := 3) (nA := 3) (As := [.int z3_0, .int (0 : Int32), .int p3]) (cs := [w9 cA a0.2.2.2 z3_1]) (rs := [[(a0.1, .inr (1, [.ref a0.2.1.1, .ref a0.2.2.1.1, .ref a0.2.2.2.1]))], w9 cA a0.2.1 v0.1, w9 cA a0.2.2.1 v0.2.1]) (cs1 := [w9 cA a0.2.2.2 o7]) (bs1 := [[(a0.1, .inr (1, [.ref a0.2.1.1, .ref a0.2.2.1.1, .ref a0.2.2.2.1]))], w9 cA a0.2.1 v0.1, w9 cA a0.2.2.1 v0.2.1, w9 cA a0.2.2.2 o7]) (rest := []) (st1 := []) ⟨hx, hb, hml, hown, hts⟩ hz hw hA (mX9_set l D cA cR a0.2.2.2 z3_1 z3_0 (0 : Int32) p3 o7 hso7) gX1_mask_X9_set rfl rfl rfl (by decide +kernel) rfl ⟨Nat.le_of_ble_eq_true rfl, Nat.le_of_ble_eq_true rfl⟩ rfl rfl hl.1 rfl (Nat.le_of_ble_eq_true rfl) dX1_mask_17 ⟨Nat.le_of_ble_eq_true rfl, Nat.le_of_ble_eq_true rfl⟩ [3] [0, 1, 2] [0, 1, 2, 3] rfl rfl rfl rfl rfl rfl (fun H locs hw => ?_)
        refine lv_iinc (v := (z3_0 + 1)) (lv' := [(4, .int (z3_0 + 1)), (0, .ref a0.1), (1, .int p1), (2, .int p2), (3, .int p3)]) hx hb dX1_mask_20 hl (k := 4) rfl rfl (by decide) rfl (fun ls hl => ?_)
        refine lv_goto (tgt := 3) hx hb dX1_mask_23 (by decide) ?_
        exact ih3 (z3_0 + 1) o7 _ hsp _ _ _ hw (lv_sub hl [1, 2, 3, 4, 0] rfl) kx3_26
  obtain ⟨o5, hso5, hsp⟩ := bnd_of hsp
  refine L3 N p1 v0.2.2 _ hso5 _ _ _ hw (lv_sub hl [1, 2, 3, 4, 0] rfl) (fun y26 hy26 H locs ls hw hl => ?_)
  cases hy26
  have hsp := Option.some.inj hsp
  subst hsp
  have hw : ww A s.heap D [w1 cA a0 (v0.1, v0.2.1, o5.2)] H locs := hw
  subst hQ
  exact k_vret hx hb hr hlk hw dX1_mask_26
noncomputable def sX1_observe (v0 : V1) (p1 : Int32) (p2 : Int32) (p3 : Int32) : Option (V1) := ((sX9_get v0.1 p1 (0 : Int32)).bind (fun o1 => ((sX9_set v0.2.1 p1 (o1 - o1 / (8 : Int32) * (8 : Int32)) p2).bind (fun o2 => ((sX9_increase v0.1 p1 (0 : Int32)).bind (fun o3 => (((if p3 = 0 then (some o3) else ((sX9_increase o3 p1 (1 : Int32)).bind (fun o17 => (some o17)))) : Option (V9)).bind (fun j6 => ((sX1_maskOf (j6, o2, v0.2.2) p1).bind (fun o7 => (((if p2 ≤ o7 then (some j6) else ((sX9_increase j6 p1 (3 : Int32)).bind (fun o15 => (some o15)))) : Option (V9)).bind (fun j10 => ((sX9_get j10 p1 (2 : Int32)).bind (fun o11 => (if p2 ≤ o11 then (some (j10, o2, v0.2.2)) else ((sX9_set j10 p1 (2 : Int32) p2).bind (fun o13 => (some (o13, o2, v0.2.2)))))))))))))))))))
abbrev rX1_observe : Room := { frames := 2, cells := 0, slots := 0, locals := 45 }
set_option maxHeartbeats 4000000 in
set_option maxRecDepth 100000 in
theorem mX1_observe (l : Launch) (D : va_G) (cA cR : ClassId) (a0 : A1) (v0 : V1) (p1 : Int32) (p2 : Int32) (p3 : Int32) (o : V1) (hsp : sX1_observe v0 p1 p2 p3 = some o) : MI l yX1_observe wsX1_observe rX1_observe D cA cR [.ref a0.1, .int p1, .int p2, .int p3] [w1 cA a0 v0] none [w1 cA a0 o] 0 0 := by
  have hsp : ((sX9_get v0.1 p1 (0 : Int32)).bind (fun o1 => ((sX9_set v0.2.1 p1 (o1 - o1 / (8 : Int32) * (8 : Int32)) p2).bind (fun o2 => ((sX9_increase v0.1 p1 (0 : Int32)).bind (fun o3 => (((if p3 = 0 then (some o3) else ((sX9_increase o3 p1 (1 : Int32)).bind (fun o17 => (some o17)))) : Option (V9)).bind (fun j6 => ((sX1_maskOf (j6, o2, v0.2.2) p1).bind (fun o7 => (((if p2 ≤ o7 then (some j6) else ((sX9_increase j6 p1 (3 : Int32)).bind (fun o15 => (some o15)))) : Option (V9)).bind (fun j10 => ((sX9_get j10 p1 (2 : Int32)).bind (fun o11 => (if p2 ≤ o11 then (some (j10, o2, v0.2.2)) else ((sX9_set j10 p1 (2 : Int32) p2).bind (fun o13 => (some (o13, o2, v0.2.2))))))))))))))))))) = some o := hsp
  refine MI.ofW (cc := cX1_observe) (maxL := 5) (ret := none) (by decide) rfl (Nat.le_of_ble_eq_true rfl) ?_
  intro p e s m args below meth c A ls Q H locs hx hb hr hlk hml hown hnm hts hz hA hQ hw hl
  have hl : lv_has ls 5 [(0, .ref a0.1), (1, .int p1), (2, .int p2), (3, .int p3)] := hl
  have hw : ww A s.heap D [[(a0.1, .inr (1, [.ref a0.2.1.1, .ref a0.2.2.1.1, .ref a0.2.2.2.1]))], w9 cA a0.2.1 v0.1, w9 cA a0.2.2.1 v0.2.1, w9 cA a0.2.2.2 v0.2.2] H locs := hw
  refine lv_aload_n hx hb dX1_observe_0 rfl (lv_at hl 0 rfl) ?_
  refine k_get (ci := 1) (v := .ref a0.2.1.1) (C := RX1) (T := TX1) (N := 3) hx hb hts hown hz hw (by decide +kernel) 0 rfl rfl 0 (by decide) (hts (.fieldLink RX1 14 "OccupancyMonitor$Detectors" "table" "LOccupancyMonitor$Table;") (by decide +kernel)) (fun _ h9 => h9) rfl dX1_observe_1 ?_
  refine lv_iload_n hx hb dX1_observe_4 rfl (lv_at hl 1 rfl) ?_
  refine lv_iconst (v := 0) hx hb dX1_observe_5 (by decide) ?_
  obtain ⟨o1, hso1, hsp⟩ := bnd_of hsp
  refine k_callV (ci := 9) (C := RX9) (T := TX9) (N := 3) (nA := 2) (As := [.int p1, .int (0 : Int32)]) (cs := [w9 cA a0.2.1 v0.1]) (rs := [[(a0.1, .inr (1, [.ref a0.2.1.1, .ref a0.2.2.1.1, .ref a0.2.2.2.1]))], w9 cA a0.2.2.1 v0.2.1, w9 cA a0.2.2.2 v0.2.2]) (cs1 := [w9 cA a0.2.1 v0.1]) (bs1 := [[(a0.1, .inr (1, [.ref a0.2.1.1, .ref a0.2.2.1.1, .ref a0.2.2.2.1]))], w9 cA a0.2.1 v0.1, w9 cA a0.2.2.1 v0.2.1, w9 cA a0.2.2.2 v0.2.2]) (rest := []) (st1 := [.int o1]) ⟨hx, hb, hml, hown, hts⟩ hz hw hA (mX9_get l D cA cR a0.2.1 v0.1 p1 (0 : Int32) o1 hso1) gX1_observe_X9_get rfl rfl rfl (by decide +kernel) rfl ⟨Nat.le_of_ble_eq_true rfl, Nat.le_of_ble_eq_true rfl⟩ rfl rfl hl.1 rfl (Nat.le_of_ble_eq_true rfl) dX1_observe_6 ⟨Nat.le_of_ble_eq_true rfl, Nat.le_of_ble_eq_true rfl⟩ [1] [0, 2, 3] [0, 3, 1, 2] rfl rfl rfl rfl rfl rfl (fun H locs hw => ?_)
  refine lv_istore (lv' := [(4, .int o1), (0, .ref a0.1), (1, .int p1), (2, .int p2), (3, .int p3)]) hx hb dX1_observe_9 hl (by decide) rfl (fun ls hl => ?_)
  refine lv_aload_n hx hb dX1_observe_11 rfl (lv_at hl 1 rfl) ?_
  refine k_get (ci := 1) (v := .ref a0.2.2.1.1) (C := RX1) (T := TX1) (N := 3) hx hb hts hown hz hw (by decide +kernel) 0 rfl rfl 1 (by decide) (hts (.fieldLink RX1 20 "OccupancyMonitor$Detectors" "latest" "LOccupancyMonitor$Table;") (by decide +kernel)) (fun _ h9 => h9) rfl dX1_observe_12 ?_
  refine lv_iload_n hx hb dX1_observe_15 rfl (lv_at hl 2 rfl) ?_
  refine lv_iload hx hb dX1_observe_16 (lv_at hl 0 rfl) ?_
  refine lv_bipush (v := 8) hx hb dX1_observe_18 (by decide) ?_
  refine lv_irem hx hb dX1_observe_20 (by decide) ?_
  refine lv_iload_n hx hb dX1_observe_21 rfl (lv_at hl 3 rfl) ?_
  obtain ⟨o2, hso2, hsp⟩ := bnd_of hsp
  refine k_callV (ci := 9) (C := RX9) (T := TX9) (N := 3) (nA := 3) (As := [.int p1, .int (o1 - o1 / (8 : Int32) * (8 : Int32)), .int p2]) (cs := [w9 cA a0.2.2.1 v0.2.1]) (rs := [[(a0.1, .inr (1, [.ref a0.2.1.1, .ref a0.2.2.1.1, .ref a0.2.2.2.1]))], w9 cA a0.2.1 v0.1, w9 cA a0.2.2.2 v0.2.2]) (cs1 := [w9 cA a0.2.2.1 o2]) (bs1 := [[(a0.1, .inr (1, [.ref a0.2.1.1, .ref a0.2.2.1.1, .ref a0.2.2.2.1]))], w9 cA a0.2.1 v0.1, w9 cA a0.2.2.1 o2, w9 cA a0.2.2.2 v0.2.2]) (rest := []) (st1 := []) ⟨hx, hb, hml, hown, hts⟩ hz hw hA (mX9_set l D cA cR a0.2.2.1 v0.2.1 p1 (o1 - o1 / (8 : Int32) * (8 : Int32)) p2 o2 hso2) gX1_observe_X9_set rfl rfl rfl (by decide +kernel) rfl ⟨Nat.le_of_ble_eq_true rfl, Nat.le_of_ble_eq_true rfl⟩ rfl rfl hl.1 rfl (Nat.le_of_ble_eq_true rfl) dX1_observe_22 ⟨Nat.le_of_ble_eq_true rfl, Nat.le_of_ble_eq_true rfl⟩ [2] [0, 1, 3] [0, 1, 3, 2] rfl rfl rfl rfl rfl rfl (fun H locs hw => ?_)
  refine lv_aload_n hx hb dX1_observe_25 rfl (lv_at hl 1 rfl) ?_
  refine k_get (ci := 1) (v := .ref a0.2.1.1) (C := RX1) (T := TX1) (N := 3) hx hb hts hown hz hw (by decide +kernel) 0 rfl rfl 0 (by decide) (hts (.fieldLink RX1 14 "OccupancyMonitor$Detectors" "table" "LOccupancyMonitor$Table;") (by decide +kernel)) (fun _ h9 => h9) rfl dX1_observe_26 ?_
  refine lv_iload_n hx hb dX1_observe_29 rfl (lv_at hl 2 rfl) ?_
  refine lv_iconst (v := 0) hx hb dX1_observe_30 (by decide) ?_
  obtain ⟨o3, hso3, hsp⟩ := bnd_of hsp
  refine k_callV (ci := 9) (C := RX9) (T := TX9) (N := 3) (nA := 2) (As := [.int p1, .int (0 : Int32)]) (cs := [w9 cA a0.2.1 v0.1]) (rs := [[(a0.1, .inr (1, [.ref a0.2.1.1, .ref a0.2.2.1.1, .ref a0.2.2.2.1]))], w9 cA a0.2.2.1 o2, w9 cA a0.2.2.2 v0.2.2]) (cs1 := [w9 cA a0.2.1 o3]) (bs1 := [[(a0.1, .inr (1, [.ref a0.2.1.1, .ref a0.2.2.1.1, .ref a0.2.2.2.1]))], w9 cA a0.2.1 o3, w9 cA a0.2.2.1 o2, w9 cA a0.2.2.2 v0.2.2]) (rest := []) (st1 := []) ⟨hx, hb, hml, hown, hts⟩ hz hw hA (mX9_increase l D cA cR a0.2.1 v0.1 p1 (0 : Int32) o3 hso3) gX1_observe_X9_increase rfl rfl rfl (by decide +kernel) rfl ⟨Nat.le_of_ble_eq_true rfl, Nat.le_of_ble_eq_true rfl⟩ rfl rfl hl.1 rfl (Nat.le_of_ble_eq_true rfl) dX1_observe_31 ⟨Nat.le_of_ble_eq_true rfl, Nat.le_of_ble_eq_true rfl⟩ [1] [0, 2, 3] [0, 3, 1, 2] rfl rfl rfl rfl rfl rfl (fun H locs hw => ?_)
  refine lv_iload_n hx hb dX1_observe_34 rfl (lv_at hl 4 rfl) ?_
  obtain ⟨j6, hsj6, hkj6⟩ := bnd_of hsp
  have Jj6 : ∀ (H : Heap) (locs : List Loc) (ls : Array Slot), ww A s.heap D [[(a0.1, .inr (1, [.ref a0.2.1.1, .ref a0.2.2.1.1, .ref a0.2.2.2.1]))], w9 cA a0.2.1 j6, w9 cA a0.2.2.1 o2, w9 cA a0.2.2.2 v0.2.2] H locs → lv_has ls 5 [(0, .ref a0.1), (1, .int p1), (2, .int p2), (3, .int p3), (4, .int o1)] → W p l e rX1_observe s m args below meth c H locs 0 0 Q (F0 m 47 ls []) := by
    intro H locs ls hw hl
    have hsp := hkj6
    refine lv_iload_n hx hb dX1_observe_47 rfl (lv_at hl 2 rfl) ?_
    refine lv_aload_n hx hb dX1_observe_48 rfl (lv_at hl 0 rfl) ?_
    refine lv_iload_n hx hb dX1_observe_49 rfl (lv_at hl 1 rfl) ?_
    have hw : ww A s.heap D [w1 cA a0 (j6, o2, v0.2.2)] H locs := hw
    obtain ⟨o7, hso7, hsp⟩ := bnd_of hsp
    refine k_callV (ci := 1) (C := RX1) (T := TX1) (N := 3) (nA := 1) (As := [.int p1]) (cs := [w1 cA a0 (j6, o2, v0.2.2)]) (rs := []) (cs1 := [w1 cA a0 (j6, o2, v0.2.2)]) (bs1 := [w1 cA a0 (j6, o2, v0.2.2)]) (rest := [.int p2]) (st1 := [.int o7, .int p2]) ⟨hx, hb, hml, hown, hts⟩ hz hw hA (mX1_maskOf l D cA cR a0 (j6, o2, v0.2.2) p1 o7 hso7) gX1_observe_X1_maskOf rfl rfl rfl (by decide +kernel) rfl ⟨Nat.le_of_ble_eq_true rfl, Nat.le_of_ble_eq_true rfl⟩ rfl rfl hl.1 rfl (Nat.le_of_ble_eq_true rfl) dX1_observe_50 ⟨Nat.le_of_ble_eq_true rfl, Nat.le_of_ble_eq_true rfl⟩ [0] [] [0] rfl rfl rfl rfl rfl rfl (fun H locs hw => ?_)
    have hw : ww A s.heap D [[(a0.1, .inr (1, [.ref a0.2.1.1, .ref a0.2.2.1.1, .ref a0.2.2.2.1]))], w9 cA a0.2.1 j6, w9 cA a0.2.2.1 o2, w9 cA a0.2.2.2 v0.2.2] H locs := hw
    obtain ⟨j10, hsj10, hkj10⟩ := bnd_of hsp
    have Jj10 : ∀ (H : Heap) (locs : List Loc) (ls : Array Slot), ww A s.heap D [[(a0.1, .inr (1, [.ref a0.2.1.1, .ref a0.2.2.1.1, .ref a0.2.2.2.1]))], w9 cA a0.2.1 j10, w9 cA a0.2.2.1 o2, w9 cA a0.2.2.2 v0.2.2] H locs → lv_has ls 5 [(0, .ref a0.1), (1, .int p1), (2, .int p2), (3, .int p3), (4, .int o1)] → W p l e rX1_observe s m args below meth c H locs 0 0 Q (F0 m 65 ls []) := by
      intro H locs ls hw hl
      have hsp := hkj10
      refine lv_iload_n hx hb dX1_observe_65 rfl (lv_at hl 2 rfl) ?_
      refine lv_aload_n hx hb dX1_observe_66 rfl (lv_at hl 0 rfl) ?_
      refine k_get (ci := 1) (v := .ref a0.2.1.1) (C := RX1) (T := TX1) (N := 3) hx hb hts hown hz hw (by decide +kernel) 0 rfl rfl 0 (by decide) (hts (.fieldLink RX1 14 "OccupancyMonitor$Detectors" "table" "LOccupancyMonitor$Table;") (by decide +kernel)) (fun _ h9 => h9) rfl dX1_observe_67 ?_
      refine lv_iload_n hx hb dX1_observe_70 rfl (lv_at hl 1 rfl) ?_
      refine lv_iconst (v := 2) hx hb dX1_observe_71 (by decide) ?_
      obtain ⟨o11, hso11, hsp⟩ := bnd_of hsp
      refine k_callV (ci := 9) (C := RX9) (T := TX9) (N := 3) (nA := 2) (As := [.int p1, .int (2 : Int32)]) (cs := [w9 cA a0.2.1 j10]) (rs := [[(a0.1, .inr (1, [.ref a0.2.1.1, .ref a0.2.2.1.1, .ref a0.2.2.2.1]))], w9 cA a0.2.2.1 o2, w9 cA a0.2.2.2 v0.2.2]) (cs1 := [w9 cA a0.2.1 j10]) (bs1 := [[(a0.1, .inr (1, [.ref a0.2.1.1, .ref a0.2.2.1.1, .ref a0.2.2.2.1]))], w9 cA a0.2.1 j10, w9 cA a0.2.2.1 o2, w9 cA a0.2.2.2 v0.2.2]) (rest := [.int p2]) (st1 := [.int o11, .int p2]) ⟨hx, hb, hml, hown, hts⟩ hz hw hA (mX9_get l D cA cR a0.2.1 j10 p1 (2 : Int32) o11 hso11) gX1_observe_X9_get rfl rfl rfl (by decide +kernel) rfl ⟨Nat.le_of_ble_eq_true rfl, Nat.le_of_ble_eq_true rfl⟩ rfl rfl hl.1 rfl (Nat.le_of_ble_eq_true rfl) dX1_observe_72 ⟨Nat.le_of_ble_eq_true rfl, Nat.le_of_ble_eq_true rfl⟩ [1] [0, 2, 3] [0, 3, 1, 2] rfl rfl rfl rfl rfl rfl (fun H locs hw => ?_)
      refine lv_icmp_le (tgt := 88) hx hb dX1_observe_75 (by decide) (fun c12 => ?_) (fun c12 => ?_)
      · have hsp := ift c12 hsp
        have hsp := Option.some.inj hsp
        subst hsp
        have hw : ww A s.heap D [w1 cA a0 (j10, o2, v0.2.2)] H locs := hw
        subst hQ
        exact k_vret hx hb hr hlk hw dX1_observe_88
      · have hsp := iff_ c12 hsp
        refine lv_aload_n hx hb dX1_observe_78 rfl (lv_at hl 0 rfl) ?_
        refine k_get (ci := 1) (v := .ref a0.2.1.1) (C := RX1) (T := TX1) (N := 3) hx hb hts hown hz hw (by decide +kernel) 0 rfl rfl 0 (by decide) (hts (.fieldLink RX1 14 "OccupancyMonitor$Detectors" "table" "LOccupancyMonitor$Table;") (by decide +kernel)) (fun _ h9 => h9) rfl dX1_observe_79 ?_
        refine lv_iload_n hx hb dX1_observe_82 rfl (lv_at hl 1 rfl) ?_
        refine lv_iconst (v := 2) hx hb dX1_observe_83 (by decide) ?_
        refine lv_iload_n hx hb dX1_observe_84 rfl (lv_at hl 2 rfl) ?_
        obtain ⟨o13, hso13, hsp⟩ := bnd_of hsp
        refine k_callV (ci := 9) (C := RX9) (T := TX9) (N := 3) (nA := 3) (As := [.int p1, .int (2 : Int32), .int p2]) (cs := [w9 cA a0.2.1 j10]) (rs := [[(a0.1, .inr (1, [.ref a0.2.1.1, .ref a0.2.2.1.1, .ref a0.2.2.2.1]))], w9 cA a0.2.2.1 o2, w9 cA a0.2.2.2 v0.2.2]) (cs1 := [w9 cA a0.2.1 o13]) (bs1 := [[(a0.1, .inr (1, [.ref a0.2.1.1, .ref a0.2.2.1.1, .ref a0.2.2.2.1]))], w9 cA a0.2.1 o13, w9 cA a0.2.2.1 o2, w9 cA a0.2.2.2 v0.2.2]) (rest := []) (st1 := []) ⟨hx, hb, hml, hown, hts⟩ hz hw hA (mX9_set l D cA cR a0.2.1 j10 p1 (2 : Int32) p2 o13 hso13) gX1_observe_X9_set rfl rfl rfl (by decide +kernel) rfl ⟨Nat.le_of_ble_eq_true rfl, Nat.le_of_ble_eq_true rfl⟩ rfl rfl hl.1 rfl (Nat.le_of_ble_eq_true rfl) dX1_observe_85 ⟨Nat.le_of_ble_eq_true rfl, Nat.le_of_ble_eq_true rfl⟩ [1] [0, 2, 3] [0, 3, 1, 2] rfl rfl rfl rfl rfl rfl (fun H locs hw => ?_)
        have hsp := Option.some.inj hsp
        subst hsp
        have hw : ww A s.heap D [w1 cA a0 (o13, o2, v0.2.2)] H locs := hw
        subst hQ
        exact k_vret hx hb hr hlk hw dX1_observe_88
    have hsp := hsj10
    refine lv_icmp_le (tgt := 65) hx hb dX1_observe_53 (by decide) (fun c14 => ?_) (fun c14 => ?_)
    · have hsp := ift c14 hsp
      have hsp := Option.some.inj hsp
      subst hsp
      exact Jj10 _ _ _ hw (lv_sub hl [0, 1, 2, 3, 4] rfl)
    · have hsp := iff_ c14 hsp
      refine lv_aload_n hx hb dX1_observe_56 rfl (lv_at hl 0 rfl) ?_
      refine k_get (ci := 1) (v := .ref a0.2.1.1) (C := RX1) (T := TX1) (N := 3) hx hb hts hown hz hw (by decide +kernel) 0 rfl rfl 0 (by decide) (hts (.fieldLink RX1 14 "OccupancyMonitor$Detectors" "table" "LOccupancyMonitor$Table;") (by decide +kernel)) (fun _ h9 => h9) rfl dX1_observe_57 ?_
      refine lv_iload_n hx hb dX1_observe_60 rfl (lv_at hl 1 rfl) ?_
      refine lv_iconst (v := 3) hx hb dX1_observe_61 (by decide) ?_
      obtain ⟨o15, hso15, hsp⟩ := bnd_of hsp
      refine k_callV (ci := 9) (C := RX9) (T := TX9) (N := 3) (nA := 2) (As := [.int p1, .int (3 : Int32)]) (cs := [w9 cA a0.2.1 j6]) (rs := [[(a0.1, .inr (1, [.ref a0.2.1.1, .ref a0.2.2.1.1, .ref a0.2.2.2.1]))], w9 cA a0.2.2.1 o2, w9 cA a0.2.2.2 v0.2.2]) (cs1 := [w9 cA a0.2.1 o15]) (bs1 := [[(a0.1, .inr (1, [.ref a0.2.1.1, .ref a0.2.2.1.1, .ref a0.2.2.2.1]))], w9 cA a0.2.1 o15, w9 cA a0.2.2.1 o2, w9 cA a0.2.2.2 v0.2.2]) (rest := []) (st1 := []) ⟨hx, hb, hml, hown, hts⟩ hz hw hA (mX9_increase l D cA cR a0.2.1 j6 p1 (3 : Int32) o15 hso15) gX1_observe_X9_increase rfl rfl rfl (by decide +kernel) rfl ⟨Nat.le_of_ble_eq_true rfl, Nat.le_of_ble_eq_true rfl⟩ rfl rfl hl.1 rfl (Nat.le_of_ble_eq_true rfl) dX1_observe_62 ⟨Nat.le_of_ble_eq_true rfl, Nat.le_of_ble_eq_true rfl⟩ [1] [0, 2, 3] [0, 3, 1, 2] rfl rfl rfl rfl rfl rfl (fun H locs hw => ?_)
      have hsp := Option.some.inj hsp
      subst hsp
      exact Jj10 _ _ _ hw (lv_sub hl [0, 1, 2, 3, 4] rfl)
  have hsp := hsj6
  refine lv_if_eq (tgt := 47) hx hb dX1_observe_35 (by decide) (fun c16 => ?_) (fun c16 => ?_)
  · have hsp := ift c16 hsp
    have hsp := Option.some.inj hsp
    subst hsp
    exact Jj6 _ _ _ hw (lv_sub hl [1, 2, 3, 4, 0] rfl)
  · have hsp := iff_ c16 hsp
    refine lv_aload_n hx hb dX1_observe_38 rfl (lv_at hl 1 rfl) ?_
    refine k_get (ci := 1) (v := .ref a0.2.1.1) (C := RX1) (T := TX1) (N := 3) hx hb hts hown hz hw (by decide +kernel) 0 rfl rfl 0 (by decide) (hts (.fieldLink RX1 14 "OccupancyMonitor$Detectors" "table" "LOccupancyMonitor$Table;") (by decide +kernel)) (fun _ h9 => h9) rfl dX1_observe_39 ?_
    refine lv_iload_n hx hb dX1_observe_42 rfl (lv_at hl 2 rfl) ?_
    refine lv_iconst (v := 1) hx hb dX1_observe_43 (by decide) ?_
    obtain ⟨o17, hso17, hsp⟩ := bnd_of hsp
    refine k_callV (ci := 9) (C := RX9) (T := TX9) (N := 3) (nA := 2) (As := [.int p1, .int (1 : Int32)]) (cs := [w9 cA a0.2.1 o3]) (rs := [[(a0.1, .inr (1, [.ref a0.2.1.1, .ref a0.2.2.1.1, .ref a0.2.2.2.1]))], w9 cA a0.2.2.1 o2, w9 cA a0.2.2.2 v0.2.2]) (cs1 := [w9 cA a0.2.1 o17]) (bs1 := [[(a0.1, .inr (1, [.ref a0.2.1.1, .ref a0.2.2.1.1, .ref a0.2.2.2.1]))], w9 cA a0.2.1 o17, w9 cA a0.2.2.1 o2, w9 cA a0.2.2.2 v0.2.2]) (rest := []) (st1 := []) ⟨hx, hb, hml, hown, hts⟩ hz hw hA (mX9_increase l D cA cR a0.2.1 o3 p1 (1 : Int32) o17 hso17) gX1_observe_X9_increase rfl rfl rfl (by decide +kernel) rfl ⟨Nat.le_of_ble_eq_true rfl, Nat.le_of_ble_eq_true rfl⟩ rfl rfl hl.1 rfl (Nat.le_of_ble_eq_true rfl) dX1_observe_44 ⟨Nat.le_of_ble_eq_true rfl, Nat.le_of_ble_eq_true rfl⟩ [1] [0, 2, 3] [0, 3, 1, 2] rfl rfl rfl rfl rfl rfl (fun H locs hw => ?_)
    have hsp := Option.some.inj hsp
    subst hsp
    exact Jj6 _ _ _ hw (lv_sub hl [1, 2, 3, 4, 0] rfl)
noncomputable def qX1_mean_27 (v0 : V1) (p1 : Int32) (x2 : Int32) : Nat → Int32 → Int32 → Option (Int32 × Int32)
  | 0, _, _ => none
  | n27 + 1, z27_0, z27_1 => (if x2 ≤ z27_1 then (some (z27_0, z27_1)) else ((sX9_get v0.2.1 p1 z27_1).bind (fun o10 => (qX1_mean_27 v0 p1 x2 n27 (z27_0 + o10) (z27_1 + 1)))))
noncomputable def sX1_mean (N : Nat) (v0 : V1) (p1 : Int32) : Option (Int32) := ((sX9_get v0.1 p1 (0 : Int32)).bind (fun o1 => (lt_ (if (8 : Int32) < o1 then (8 : Int32) else o1) (fun x2 => (if (1 : Int32) ≤ x2 then ((qX1_mean_27 v0 p1 x2 N (0 : Int32) (0 : Int32)).bind (fun o8 => (grd (¬ x2 = 0) (some (o8.1 / x2))))) else (some (-1 : Int32)))))))
abbrev rX1_mean : Room := { frames := 1, cells := 0, slots := 0, locals := 22 }
set_option maxHeartbeats 4000000 in
set_option maxRecDepth 100000 in
theorem mX1_mean (l : Launch) (D : va_G) (cA cR : ClassId) (N : Nat) (a0 : A1) (v0 : V1) (p1 : Int32) (o : Int32) (hsp : sX1_mean N v0 p1 = some o) : MI l yX1_mean wsX1_mean rX1_mean D cA cR [.ref a0.1, .int p1] [w1 cA a0 v0] (some (.int o)) [w1 cA a0 v0] 0 0 := by
  have hsp : ((sX9_get v0.1 p1 (0 : Int32)).bind (fun o1 => (lt_ (if (8 : Int32) < o1 then (8 : Int32) else o1) (fun x2 => (if (1 : Int32) ≤ x2 then ((qX1_mean_27 v0 p1 x2 N (0 : Int32) (0 : Int32)).bind (fun o8 => (grd (¬ x2 = 0) (some (o8.1 / x2))))) else (some (-1 : Int32))))))) = some o := hsp
  refine MI.ofW (cc := cX1_mean) (maxL := 5) (ret := (some .int)) (by decide) rfl (Nat.le_of_ble_eq_true rfl) ?_
  intro p e s m args below meth c A ls Q H locs hx hb hr hlk hml hown hnm hts hz hA hQ hw hl
  have hl : lv_has ls 5 [(0, .ref a0.1), (1, .int p1)] := hl
  have hw : ww A s.heap D [[(a0.1, .inr (1, [.ref a0.2.1.1, .ref a0.2.2.1.1, .ref a0.2.2.2.1]))], w9 cA a0.2.1 v0.1, w9 cA a0.2.2.1 v0.2.1, w9 cA a0.2.2.2 v0.2.2] H locs := hw
  refine lv_aload_n hx hb dX1_mean_0 rfl (lv_at hl 0 rfl) ?_
  refine k_get (ci := 1) (v := .ref a0.2.1.1) (C := RX1) (T := TX1) (N := 3) hx hb hts hown hz hw (by decide +kernel) 0 rfl rfl 0 (by decide) (hts (.fieldLink RX1 14 "OccupancyMonitor$Detectors" "table" "LOccupancyMonitor$Table;") (by decide +kernel)) (fun _ h9 => h9) rfl dX1_mean_1 ?_
  refine lv_iload_n hx hb dX1_mean_4 rfl (lv_at hl 1 rfl) ?_
  refine lv_iconst (v := 0) hx hb dX1_mean_5 (by decide) ?_
  obtain ⟨o1, hso1, hsp⟩ := bnd_of hsp
  refine k_callV (ci := 9) (C := RX9) (T := TX9) (N := 3) (nA := 2) (As := [.int p1, .int (0 : Int32)]) (cs := [w9 cA a0.2.1 v0.1]) (rs := [[(a0.1, .inr (1, [.ref a0.2.1.1, .ref a0.2.2.1.1, .ref a0.2.2.2.1]))], w9 cA a0.2.2.1 v0.2.1, w9 cA a0.2.2.2 v0.2.2]) (cs1 := [w9 cA a0.2.1 v0.1]) (bs1 := [[(a0.1, .inr (1, [.ref a0.2.1.1, .ref a0.2.2.1.1, .ref a0.2.2.2.1]))], w9 cA a0.2.1 v0.1, w9 cA a0.2.2.1 v0.2.1, w9 cA a0.2.2.2 v0.2.2]) (rest := []) (st1 := [.int o1]) ⟨hx, hb, hml, hown, hts⟩ hz hw hA (mX9_get l D cA cR a0.2.1 v0.1 p1 (0 : Int32) o1 hso1) gX1_mean_X9_get rfl rfl rfl (by decide +kernel) rfl ⟨Nat.le_of_ble_eq_true rfl, Nat.le_of_ble_eq_true rfl⟩ rfl rfl hl.1 rfl (Nat.le_of_ble_eq_true rfl) dX1_mean_6 ⟨Nat.le_of_ble_eq_true rfl, Nat.le_of_ble_eq_true rfl⟩ [1] [0, 2, 3] [0, 3, 1, 2] rfl rfl rfl rfl rfl rfl (fun H locs hw => ?_)
  refine lv_bipush (v := 8) hx hb dX1_mean_9 (by decide) ?_
  refine va_mmin hx hb (by rw [hml]; exact hl.1.symm) hown (hts (.methodLink RX1 48 Lib.Math.min.name) (by decide +kernel)) (hts (.static Lib.Math.min.name) (by decide +kernel)) (hts (.initialized "java/lang/Math") (by decide +kernel)) (hts (.code Lib.Math.min.name Lib.Math.min.code 2 (some .int)) (by decide +kernel)) (Nat.le_of_ble_eq_true rfl) (Nat.le_of_ble_eq_true rfl) (Nat.le_of_ble_eq_true rfl) (Nat.le_of_ble_eq_true rfl) dX1_mean_11 ?_
  refine lv_topi (fun x2 ex2 => ?_)
  have hsp := lt_of hsp ex2
  refine lv_istore_n (lv' := [(2, .int x2), (0, .ref a0.1), (1, .int p1)]) hx hb dX1_mean_14 rfl hl (by decide) rfl (fun ls hl => ?_)
  refine lv_iload_n hx hb dX1_mean_15 rfl (lv_at hl 0 rfl) ?_
  refine lv_iconst (v := 1) hx hb dX1_mean_16 (by decide) ?_
  refine lv_icmp_ge (tgt := 22) hx hb dX1_mean_17 (by decide) (fun c3 => ?_) (fun c3 => ?_)
  · have hsp := ift c3 hsp
    refine lv_iconst (v := 0) hx hb dX1_mean_22 (by decide) ?_
    refine lv_istore_n (lv' := [(3, .int (0 : Int32)), (2, .int x2), (0, .ref a0.1), (1, .int p1)]) hx hb dX1_mean_23 rfl hl (by decide) rfl (fun ls hl => ?_)
    refine lv_iconst (v := 0) hx hb dX1_mean_24 (by decide) ?_
    refine lv_istore (lv' := [(4, .int (0 : Int32)), (3, .int (0 : Int32)), (2, .int x2), (0, .ref a0.1), (1, .int p1)]) hx hb dX1_mean_25 hl (by decide) rfl (fun ls hl => ?_)
    have L27 : ∀ (n27 : Nat) (z27_0 : Int32) (z27_1 : Int32) (o8 : Int32 × Int32), qX1_mean_27 v0 p1 x2 n27 z27_0 z27_1 = some o8 → ∀ (H : Heap) (locs : List Loc) (ls : Array Slot), ww A s.heap D [[(a0.1, .inr (1, [.ref a0.2.1.1, .ref a0.2.2.1.1, .ref a0.2.2.2.1]))], w9 cA a0.2.1 v0.1, w9 cA a0.2.2.1 v0.2.1, w9 cA a0.2.2.2 v0.2.2] H locs → lv_has ls 5 [(0, .ref a0.1), (1, .int p1), (2, .int x2), (3, .int z27_0), (4, .int z27_1)] → (∀ (y52 : Int32 × Int32), o8 = y52 → ∀ (H : Heap) (locs : List Loc) (ls : Array Slot), ww A s.heap D [[(a0.1, .inr (1, [.ref a0.2.1.1, .ref a0.2.2.1.1, .ref a0.2.2.2.1]))], w9 cA a0.2.1 v0.1, w9 cA a0.2.2.1 v0.2.1, w9 cA a0.2.2.2 v0.2.2] H locs → lv_has ls 5 [(0, .ref a0.1), (1, .int p1), (2, .int x2), (3, .int y52.1), (4, .int y52.2)] → W p l e rX1_mean s m args below meth c H locs 0 0 Q (F0 m 52 ls [])) → W p l e rX1_mean s m args below meth c H locs 0 0 Q (F0 m 27 ls []) := by
      intro n27
      induction n27 with
      | zero => intro z27_0 z27_1 o8 hsp; cases hsp
      | succ n27 ih27 =>
        intro z27_0 z27_1 o8 hsp H locs ls hw hl kx27_52
        have hsp : (if x2 ≤ z27_1 then (some (z27_0, z27_1)) else ((sX9_get v0.2.1 p1 z27_1).bind (fun o10 => (qX1_mean_27 v0 p1 x2 n27 (z27_0 + o10) (z27_1 + 1))))) = some o8 := hsp
        refine lv_iload hx hb dX1_mean_27 (lv_at hl 4 rfl) ?_
        refine lv_iload_n hx hb dX1_mean_29 rfl (lv_at hl 2 rfl) ?_
        refine lv_icmp_ge (tgt := 52) hx hb dX1_mean_30 (by decide) (fun c9 => ?_) (fun c9 => ?_)
        · have hsp := ift c9 hsp
          have hsp := Option.some.inj hsp
          subst hsp
          exact kx27_52 _ rfl _ _ _ hw (lv_sub hl [0, 1, 2, 3, 4] rfl)
        · have hsp := iff_ c9 hsp
          refine lv_iload_n hx hb dX1_mean_33 rfl (lv_at hl 3 rfl) ?_
          refine lv_aload_n hx hb dX1_mean_34 rfl (lv_at hl 0 rfl) ?_
          refine k_get (ci := 1) (v := .ref a0.2.2.1.1) (C := RX1) (T := TX1) (N := 3) hx hb hts hown hz hw (by decide +kernel) 0 rfl rfl 1 (by decide) (hts (.fieldLink RX1 20 "OccupancyMonitor$Detectors" "latest" "LOccupancyMonitor$Table;") (by decide +kernel)) (fun _ h9 => h9) rfl dX1_mean_35 ?_
          refine lv_iload_n hx hb dX1_mean_38 rfl (lv_at hl 1 rfl) ?_
          refine lv_iload hx hb dX1_mean_39 (lv_at hl 4 rfl) ?_
          obtain ⟨o10, hso10, hsp⟩ := bnd_of hsp
          refine k_callV (ci := 9) (C := RX9) (T := TX9) (N := 3) (nA := 2) (As := [.int p1, .int z27_1]) (cs := [w9 cA a0.2.2.1 v0.2.1]) (rs := [[(a0.1, .inr (1, [.ref a0.2.1.1, .ref a0.2.2.1.1, .ref a0.2.2.2.1]))], w9 cA a0.2.1 v0.1, w9 cA a0.2.2.2 v0.2.2]) (cs1 := [w9 cA a0.2.2.1 v0.2.1]) (bs1 := [[(a0.1, .inr (1, [.ref a0.2.1.1, .ref a0.2.2.1.1, .ref a0.2.2.2.1]))], w9 cA a0.2.1 v0.1, w9 cA a0.2.2.1 v0.2.1, w9 cA a0.2.2.2 v0.2.2]) (rest := [.int z27_0]) (st1 := [.int o10, .int z27_0]) ⟨hx, hb, hml, hown, hts⟩ hz hw hA (mX9_get l D cA cR a0.2.2.1 v0.2.1 p1 z27_1 o10 hso10) gX1_mean_X9_get rfl rfl rfl (by decide +kernel) rfl ⟨Nat.le_of_ble_eq_true rfl, Nat.le_of_ble_eq_true rfl⟩ rfl rfl hl.1 rfl (Nat.le_of_ble_eq_true rfl) dX1_mean_41 ⟨Nat.le_of_ble_eq_true rfl, Nat.le_of_ble_eq_true rfl⟩ [2] [0, 1, 3] [0, 1, 3, 2] rfl rfl rfl rfl rfl rfl (fun H locs hw => ?_)
          refine lv_iadd hx hb dX1_mean_44 ?_
          refine lv_istore_n (lv' := [(3, .int (z27_0 + o10)), (0, .ref a0.1), (1, .int p1), (2, .int x2), (4, .int z27_1)]) hx hb dX1_mean_45 rfl hl (by decide) rfl (fun ls hl => ?_)
          refine lv_iinc (v := (z27_1 + 1)) (lv' := [(4, .int (z27_1 + 1)), (3, .int (z27_0 + o10)), (0, .ref a0.1), (1, .int p1), (2, .int x2)]) hx hb dX1_mean_46 hl (k := 4) rfl rfl (by decide) rfl (fun ls hl => ?_)
          refine lv_goto (tgt := 27) hx hb dX1_mean_49 (by decide) ?_
          exact ih27 (z27_0 + o10) (z27_1 + 1) _ hsp _ _ _ hw (lv_sub hl [2, 3, 4, 1, 0] rfl) kx27_52
    obtain ⟨o8, hso8, hsp⟩ := bnd_of hsp
    refine L27 N (0 : Int32) (0 : Int32) _ hso8 _ _ _ hw (lv_sub hl [3, 4, 2, 1, 0] rfl) (fun y52 hy52 H locs ls hw hl => ?_)
    cases hy52
    refine lv_iload_n hx hb dX1_mean_52 rfl (lv_at hl 3 rfl) ?_
    refine lv_iload_n hx hb dX1_mean_53 rfl (lv_at hl 2 rfl) ?_
    obtain ⟨g11, hsp⟩ := grd_of hsp
    refine lv_idiv hx hb dX1_mean_54 g11 ?_
    have hsp := Option.some.inj hsp
    subst hsp
    have hw : ww A s.heap D [w1 cA a0 v0] H locs := hw
    subst hQ
    exact k_iret hx hb hr hlk hw dX1_mean_55
  · have hsp := iff_ c3 hsp
    refine lv_iconst (v := -1) hx hb dX1_mean_20 (by decide) ?_
    have hsp := Option.some.inj hsp
    subst hsp
    have hw : ww A s.heap D [w1 cA a0 v0] H locs := hw
    subst hQ
    exact k_iret hx hb hr hlk hw dX1_mean_21
noncomputable def qX1_mixChannels_5 (N : Nat) (v0 : V1) : Nat → Int64 → Int32 → Option (Int64 × Int32)
  | 0, _, _ => none
  | n5 + 1, z5_0, z5_1 => (if (32 : Int32) ≤ z5_1 then (some (z5_0, z5_1)) else ((sX1_maskOf v0 z5_1).bind (fun o15 => ((sX10_mix z5_0 o15).bind (fun o16 => ((sX9_mixRow N v0.1 o16 z5_1).bind (fun o17 => ((sX1_mean N v0 z5_1).bind (fun o18 => ((sX10_mix o17 o18).bind (fun o19 => (qX1_mixChannels_5 N v0 n5 o19 (z5_1 + 1)))))))))))))
noncomputable def sX1_mixChannels (N : Nat) (v0 : V1) (p1 : Int64) : Option (Int64) := ((qX1_mixChannels_5 N v0 N p1 (0 : Int32)).bind (fun o13 => (some o13.1)))
abbrev rX1_mixChannels : Room := { frames := 2, cells := 0, slots := 0, locals := 48 }
set_option maxHeartbeats 4000000 in
set_option maxRecDepth 100000 in
theorem mX1_mixChannels (l : Launch) (D : va_G) (cA cR : ClassId) (N : Nat) (a0 : A1) (v0 : V1) (p1 : Int64) (o : Int64) (hsp : sX1_mixChannels N v0 p1 = some o) : MI l yX1_mixChannels wsX1_mixChannels rX1_mixChannels D cA cR [.ref a0.1, .long p1] [w1 cA a0 v0] (some (.long o)) [w1 cA a0 v0] 0 0 := by
  have hsp : ((qX1_mixChannels_5 N v0 N p1 (0 : Int32)).bind (fun o13 => (some o13.1))) = some o := hsp
  refine MI.ofW (cc := cX1_mixChannels) (maxL := 6) (ret := (some .long)) (by decide) rfl (Nat.le_of_ble_eq_true rfl) ?_
  intro p e s m args below meth c A ls Q H locs hx hb hr hlk hml hown hnm hts hz hA hQ hw hl
  have hl : lv_has ls 6 [(0, .ref a0.1), (1, .long p1)] := hl
  have hw : ww A s.heap D [[(a0.1, .inr (1, [.ref a0.2.1.1, .ref a0.2.2.1.1, .ref a0.2.2.2.1]))], w9 cA a0.2.1 v0.1, w9 cA a0.2.2.1 v0.2.1, w9 cA a0.2.2.2 v0.2.2] H locs := hw
  refine lv_lload_n hx hb dX1_mixChannels_0 rfl (lv_at hl 1 rfl) ?_
  refine lv_lstore_n (lv' := [(3, .long p1), (0, .ref a0.1), (1, .long p1)]) hx hb dX1_mixChannels_1 rfl hl (by decide) rfl (fun ls hl => ?_)
  refine lv_iconst (v := 0) hx hb dX1_mixChannels_2 (by decide) ?_
  refine lv_istore (lv' := [(5, .int (0 : Int32)), (3, .long p1), (0, .ref a0.1), (1, .long p1)]) hx hb dX1_mixChannels_3 hl (by decide) rfl (fun ls hl => ?_)
  have L5 : ∀ (n5 : Nat) (z5_0 : Int64) (z5_1 : Int32) (o13 : Int64 × Int32), qX1_mixChannels_5 N v0 n5 z5_0 z5_1 = some o13 → ∀ (H : Heap) (locs : List Loc) (ls : Array Slot), ww A s.heap D [[(a0.1, .inr (1, [.ref a0.2.1.1, .ref a0.2.2.1.1, .ref a0.2.2.2.1]))], w9 cA a0.2.1 v0.1, w9 cA a0.2.2.1 v0.2.1, w9 cA a0.2.2.2 v0.2.2] H locs → lv_has ls 6 [(0, .ref a0.1), (1, .long p1), (3, .long z5_0), (5, .int z5_1)] → (∀ (y51 : Int64 × Int32), o13 = y51 → ∀ (H : Heap) (locs : List Loc) (ls : Array Slot), ww A s.heap D [[(a0.1, .inr (1, [.ref a0.2.1.1, .ref a0.2.2.1.1, .ref a0.2.2.2.1]))], w9 cA a0.2.1 v0.1, w9 cA a0.2.2.1 v0.2.1, w9 cA a0.2.2.2 v0.2.2] H locs → lv_has ls 6 [(0, .ref a0.1), (1, .long p1), (3, .long y51.1), (5, .int y51.2)] → W p l e rX1_mixChannels s m args below meth c H locs 0 0 Q (F0 m 51 ls [])) → W p l e rX1_mixChannels s m args below meth c H locs 0 0 Q (F0 m 5 ls []) := by
    intro n5
    induction n5 with
    | zero => intro z5_0 z5_1 o13 hsp; cases hsp
    | succ n5 ih5 =>
      intro z5_0 z5_1 o13 hsp H locs ls hw hl kx5_51
      have hsp : (if (32 : Int32) ≤ z5_1 then (some (z5_0, z5_1)) else ((sX1_maskOf v0 z5_1).bind (fun o15 => ((sX10_mix z5_0 o15).bind (fun o16 => ((sX9_mixRow N v0.1 o16 z5_1).bind (fun o17 => ((sX1_mean N v0 z5_1).bind (fun o18 => ((sX10_mix o17 o18).bind (fun o19 => (qX1_mixChannels_5 N v0 n5 o19 (z5_1 + 1))))))))))))) = some o13 := hsp
      refine lv_iload hx hb dX1_mixChannels_5 (lv_at hl 3 rfl) ?_
      refine lv_bipush (v := 32) hx hb dX1_mixChannels_7 (by decide) ?_
      refine lv_icmp_ge (tgt := 51) hx hb dX1_mixChannels_9 (by decide) (fun c14 => ?_) (fun c14 => ?_)
      · have hsp := ift c14 hsp
        have hsp := Option.some.inj hsp
        subst hsp
        exact kx5_51 _ rfl _ _ _ hw (lv_sub hl [0, 1, 2, 3] rfl)
      · have hsp := iff_ c14 hsp
        refine lv_lload_n hx hb dX1_mixChannels_12 rfl (lv_at hl 2 rfl) ?_
        refine lv_aload_n hx hb dX1_mixChannels_13 rfl (lv_at hl 0 rfl) ?_
        refine lv_iload hx hb dX1_mixChannels_14 (lv_at hl 3 rfl) ?_
        have hw : ww A s.heap D [w1 cA a0 v0] H locs := hw
        obtain ⟨o15, hso15, hsp⟩ := bnd_of hsp
        refine k_callV (ci := 1) (C := RX1) (T := TX1) (N := 3) (nA := 1) (As := [.int z5_1]) (cs := [w1 cA a0 v0]) (rs := []) (cs1 := [w1 cA a0 v0]) (bs1 := [w1 cA a0 v0]) (rest := [.long z5_0]) (st1 := [.int o15, .long z5_0]) ⟨hx, hb, hml, hown, hts⟩ hz hw hA (mX1_maskOf l D cA cR a0 v0 z5_1 o15 hso15) gX1_mixChannels_X1_maskOf rfl rfl rfl (by decide +kernel) rfl ⟨Nat.le_of_ble_eq_true rfl, Nat.le_of_ble_eq_true rfl⟩ rfl rfl hl.1 rfl (Nat.le_of_ble_eq_true rfl) dX1_mixChannels_16 ⟨Nat.le_of_ble_eq_true rfl, Nat.le_of_ble_eq_true rfl⟩ [0] [] [0] rfl rfl rfl rfl rfl rfl (fun H locs hw => ?_)
        have hw : ww A s.heap D [[(a0.1, .inr (1, [.ref a0.2.1.1, .ref a0.2.2.1.1, .ref a0.2.2.2.1]))], w9 cA a0.2.1 v0.1, w9 cA a0.2.2.1 v0.2.1, w9 cA a0.2.2.2 v0.2.2] H locs := hw
        obtain ⟨o16, hso16, hsp⟩ := bnd_of hsp
        refine k_callSN (nA := 2) (As := [.long z5_0, .int o15]) (host := "OccupancyMonitor") (cs := []) (rs := [[(a0.1, .inr (1, [.ref a0.2.1.1, .ref a0.2.2.1.1, .ref a0.2.2.2.1]))], w9 cA a0.2.1 v0.1, w9 cA a0.2.2.1 v0.2.1, w9 cA a0.2.2.2 v0.2.2]) (cs1 := []) (bs1 := [[(a0.1, .inr (1, [.ref a0.2.1.1, .ref a0.2.2.1.1, .ref a0.2.2.2.1]))], w9 cA a0.2.1 v0.1, w9 cA a0.2.2.1 v0.2.1, w9 cA a0.2.2.2 v0.2.2]) (rest := []) (st1 := [.long o16]) ⟨hx, hb, hml, hown, hts⟩ hz hw hA (mX10_mix l D cA cR z5_0 o15 o16 hso16) gX1_mixChannels_X10_mix_n53 rfl rfl rfl (by decide +kernel) (by decide +kernel) (by decide +kernel) (by decide +kernel) rfl ⟨Nat.le_of_ble_eq_true rfl, Nat.le_of_ble_eq_true rfl⟩ hl.1 rfl (Nat.le_of_ble_eq_true rfl) dX1_mixChannels_19 ⟨Nat.le_of_ble_eq_true rfl, Nat.le_of_ble_eq_true rfl⟩ [] [0, 1, 2, 3] [0, 1, 2, 3] rfl rfl rfl rfl rfl rfl (fun H locs hw => ?_)
        refine lv_lstore_n (lv' := [(3, .long o16), (0, .ref a0.1), (1, .long p1), (5, .int z5_1)]) hx hb dX1_mixChannels_22 rfl hl (by decide) rfl (fun ls hl => ?_)
        refine lv_aload_n hx hb dX1_mixChannels_23 rfl (lv_at hl 1 rfl) ?_
        refine k_get (ci := 1) (v := .ref a0.2.1.1) (C := RX1) (T := TX1) (N := 3) hx hb hts hown hz hw (by decide +kernel) 0 rfl rfl 0 (by decide) (hts (.fieldLink RX1 14 "OccupancyMonitor$Detectors" "table" "LOccupancyMonitor$Table;") (by decide +kernel)) (fun _ h9 => h9) rfl dX1_mixChannels_24 ?_
        refine lv_lload_n hx hb dX1_mixChannels_27 rfl (lv_at hl 0 rfl) ?_
        refine lv_iload hx hb dX1_mixChannels_28 (lv_at hl 3 rfl) ?_
        obtain ⟨o17, hso17, hsp⟩ := bnd_of hsp
        refine k_callV (ci := 9) (C := RX9) (T := TX9) (N := 3) (nA := 2) (As := [.long o16, .int z5_1]) (cs := [w9 cA a0.2.1 v0.1]) (rs := [[(a0.1, .inr (1, [.ref a0.2.1.1, .ref a0.2.2.1.1, .ref a0.2.2.2.1]))], w9 cA a0.2.2.1 v0.2.1, w9 cA a0.2.2.2 v0.2.2]) (cs1 := [w9 cA a0.2.1 v0.1]) (bs1 := [[(a0.1, .inr (1, [.ref a0.2.1.1, .ref a0.2.2.1.1, .ref a0.2.2.2.1]))], w9 cA a0.2.1 v0.1, w9 cA a0.2.2.1 v0.2.1, w9 cA a0.2.2.2 v0.2.2]) (rest := []) (st1 := [.long o17]) ⟨hx, hb, hml, hown, hts⟩ hz hw hA (mX9_mixRow l D cA cR N a0.2.1 v0.1 o16 z5_1 o17 hso17) gX1_mixChannels_X9_mixRow rfl rfl rfl (by decide +kernel) rfl ⟨Nat.le_of_ble_eq_true rfl, Nat.le_of_ble_eq_true rfl⟩ rfl rfl hl.1 rfl (Nat.le_of_ble_eq_true rfl) dX1_mixChannels_30 ⟨Nat.le_of_ble_eq_true rfl, Nat.le_of_ble_eq_true rfl⟩ [1] [0, 2, 3] [0, 3, 1, 2] rfl rfl rfl rfl rfl rfl (fun H locs hw => ?_)
        refine lv_lstore_n (lv' := [(3, .long o17), (0, .ref a0.1), (1, .long p1), (5, .int z5_1)]) hx hb dX1_mixChannels_33 rfl hl (by decide) rfl (fun ls hl => ?_)
        refine lv_lload_n hx hb dX1_mixChannels_34 rfl (lv_at hl 0 rfl) ?_
        refine lv_aload_n hx hb dX1_mixChannels_35 rfl (lv_at hl 1 rfl) ?_
        refine lv_iload hx hb dX1_mixChannels_36 (lv_at hl 3 rfl) ?_
        have hw : ww A s.heap D [w1 cA a0 v0] H locs := hw
        obtain ⟨o18, hso18, hsp⟩ := bnd_of hsp
        refine k_callV (ci := 1) (C := RX1) (T := TX1) (N := 3) (nA := 1) (As := [.int z5_1]) (cs := [w1 cA a0 v0]) (rs := []) (cs1 := [w1 cA a0 v0]) (bs1 := [w1 cA a0 v0]) (rest := [.long o17]) (st1 := [.int o18, .long o17]) ⟨hx, hb, hml, hown, hts⟩ hz hw hA (mX1_mean l D cA cR N a0 v0 z5_1 o18 hso18) gX1_mixChannels_X1_mean rfl rfl rfl (by decide +kernel) rfl ⟨Nat.le_of_ble_eq_true rfl, Nat.le_of_ble_eq_true rfl⟩ rfl rfl hl.1 rfl (Nat.le_of_ble_eq_true rfl) dX1_mixChannels_38 ⟨Nat.le_of_ble_eq_true rfl, Nat.le_of_ble_eq_true rfl⟩ [0] [] [0] rfl rfl rfl rfl rfl rfl (fun H locs hw => ?_)
        have hw : ww A s.heap D [[(a0.1, .inr (1, [.ref a0.2.1.1, .ref a0.2.2.1.1, .ref a0.2.2.2.1]))], w9 cA a0.2.1 v0.1, w9 cA a0.2.2.1 v0.2.1, w9 cA a0.2.2.2 v0.2.2] H locs := hw
        obtain ⟨o19, hso19, hsp⟩ := bnd_of hsp
        refine k_callSN (nA := 2) (As := [.long o17, .int o18]) (host := "OccupancyMonitor") (cs := []) (rs := [[(a0.1, .inr (1, [.ref a0.2.1.1, .ref a0.2.2.1.1, .ref a0.2.2.2.1]))], w9 cA a0.2.1 v0.1, w9 cA a0.2.2.1 v0.2.1, w9 cA a0.2.2.2 v0.2.2]) (cs1 := []) (bs1 := [[(a0.1, .inr (1, [.ref a0.2.1.1, .ref a0.2.2.1.1, .ref a0.2.2.2.1]))], w9 cA a0.2.1 v0.1, w9 cA a0.2.2.1 v0.2.1, w9 cA a0.2.2.2 v0.2.2]) (rest := []) (st1 := [.long o19]) ⟨hx, hb, hml, hown, hts⟩ hz hw hA (mX10_mix l D cA cR o17 o18 o19 hso19) gX1_mixChannels_X10_mix_n53 rfl rfl rfl (by decide +kernel) (by decide +kernel) (by decide +kernel) (by decide +kernel) rfl ⟨Nat.le_of_ble_eq_true rfl, Nat.le_of_ble_eq_true rfl⟩ hl.1 rfl (Nat.le_of_ble_eq_true rfl) dX1_mixChannels_41 ⟨Nat.le_of_ble_eq_true rfl, Nat.le_of_ble_eq_true rfl⟩ [] [0, 1, 2, 3] [0, 1, 2, 3] rfl rfl rfl rfl rfl rfl (fun H locs hw => ?_)
        refine lv_lstore_n (lv' := [(3, .long o19), (0, .ref a0.1), (1, .long p1), (5, .int z5_1)]) hx hb dX1_mixChannels_44 rfl hl (by decide) rfl (fun ls hl => ?_)
        refine lv_iinc (v := (z5_1 + 1)) (lv' := [(5, .int (z5_1 + 1)), (3, .long o19), (0, .ref a0.1), (1, .long p1)]) hx hb dX1_mixChannels_45 hl (k := 3) rfl rfl (by decide) rfl (fun ls hl => ?_)
        refine lv_goto (tgt := 5) hx hb dX1_mixChannels_48 (by decide) ?_
        exact ih5 o19 (z5_1 + 1) _ hsp _ _ _ hw (lv_sub hl [2, 3, 1, 0] rfl) kx5_51
  obtain ⟨o13, hso13, hsp⟩ := bnd_of hsp
  refine L5 N p1 (0 : Int32) _ hso13 _ _ _ hw (lv_sub hl [2, 3, 1, 0] rfl) (fun y51 hy51 H locs ls hw hl => ?_)
  cases hy51
  refine lv_lload_n hx hb dX1_mixChannels_51 rfl (lv_at hl 2 rfl) ?_
  have hsp := Option.some.inj hsp
  subst hsp
  have hw : ww A s.heap D [w1 cA a0 v0] H locs := hw
  subst hQ
  exact k_lret hx hb hr hlk hw dX1_mixChannels_52
noncomputable def sX1_copyFrom (v0 : V1) (v1 : V1) : Option (V1) := ((sX9_copyFrom v0.1 v1.1).bind (fun o1 => ((sX9_copyFrom v0.2.1 v1.2.1).bind (fun o2 => ((sX9_copyFrom v0.2.2 v1.2.2).bind (fun o3 => (some (o1, o2, o3))))))))
abbrev rX1_copyFrom : Room := { frames := 2, cells := 0, slots := 0, locals := 47 }
set_option maxHeartbeats 4000000 in
set_option maxRecDepth 100000 in
theorem mX1_copyFrom (l : Launch) (D : va_G) (cA cR : ClassId) (a0 : A1) (v0 : V1) (a1 : A1) (v1 : V1) (o : V1) (hsp : sX1_copyFrom v0 v1 = some o) : MI l yX1_copyFrom wsX1_copyFrom rX1_copyFrom D cA cR [.ref a0.1, .ref a1.1] [w1 cA a0 v0, w1 cA a1 v1] none [w1 cA a0 o, w1 cA a1 v1] 0 0 := by
  have hsp : ((sX9_copyFrom v0.1 v1.1).bind (fun o1 => ((sX9_copyFrom v0.2.1 v1.2.1).bind (fun o2 => ((sX9_copyFrom v0.2.2 v1.2.2).bind (fun o3 => (some (o1, o2, o3)))))))) = some o := hsp
  refine MI.ofW (cc := cX1_copyFrom) (maxL := 2) (ret := none) (by decide) rfl (Nat.le_of_ble_eq_true rfl) ?_
  intro p e s m args below meth c A ls Q H locs hx hb hr hlk hml hown hnm hts hz hA hQ hw hl
  have hl : lv_has ls 2 [(0, .ref a0.1), (1, .ref a1.1)] := hl
  have hw : ww A s.heap D [[(a0.1, .inr (1, [.ref a0.2.1.1, .ref a0.2.2.1.1, .ref a0.2.2.2.1]))], w9 cA a0.2.1 v0.1, w9 cA a0.2.2.1 v0.2.1, w9 cA a0.2.2.2 v0.2.2, [(a1.1, .inr (1, [.ref a1.2.1.1, .ref a1.2.2.1.1, .ref a1.2.2.2.1]))], w9 cA a1.2.1 v1.1, w9 cA a1.2.2.1 v1.2.1, w9 cA a1.2.2.2 v1.2.2] H locs := hw
  refine lv_aload_n hx hb dX1_copyFrom_0 rfl (lv_at hl 0 rfl) ?_
  refine k_get (ci := 1) (v := .ref a0.2.1.1) (C := RX1) (T := TX1) (N := 3) hx hb hts hown hz hw (by decide +kernel) 0 rfl rfl 0 (by decide) (hts (.fieldLink RX1 14 "OccupancyMonitor$Detectors" "table" "LOccupancyMonitor$Table;") (by decide +kernel)) (fun _ h9 => h9) rfl dX1_copyFrom_1 ?_
  refine lv_aload_n hx hb dX1_copyFrom_4 rfl (lv_at hl 1 rfl) ?_
  refine k_get (ci := 1) (v := .ref a1.2.1.1) (C := RX1) (T := TX1) (N := 3) hx hb hts hown hz hw (by decide +kernel) 4 rfl rfl 0 (by decide) (hts (.fieldLink RX1 14 "OccupancyMonitor$Detectors" "table" "LOccupancyMonitor$Table;") (by decide +kernel)) (fun _ h9 => h9) rfl dX1_copyFrom_5 ?_
  obtain ⟨o1, hso1, hsp⟩ := bnd_of hsp
  refine k_callV (ci := 9) (C := RX9) (T := TX9) (N := 3) (nA := 1) (As := [.ref a1.2.1.1]) (cs := [w9 cA a0.2.1 v0.1, w9 cA a1.2.1 v1.1]) (rs := [[(a0.1, .inr (1, [.ref a0.2.1.1, .ref a0.2.2.1.1, .ref a0.2.2.2.1]))], w9 cA a0.2.2.1 v0.2.1, w9 cA a0.2.2.2 v0.2.2, [(a1.1, .inr (1, [.ref a1.2.1.1, .ref a1.2.2.1.1, .ref a1.2.2.2.1]))], w9 cA a1.2.2.1 v1.2.1, w9 cA a1.2.2.2 v1.2.2]) (cs1 := [w9 cA a0.2.1 o1, w9 cA a1.2.1 v1.1]) (bs1 := [[(a0.1, .inr (1, [.ref a0.2.1.1, .ref a0.2.2.1.1, .ref a0.2.2.2.1]))], w9 cA a0.2.1 o1, w9 cA a0.2.2.1 v0.2.1, w9 cA a0.2.2.2 v0.2.2, [(a1.1, .inr (1, [.ref a1.2.1.1, .ref a1.2.2.1.1, .ref a1.2.2.2.1]))], w9 cA a1.2.1 v1.1, w9 cA a1.2.2.1 v1.2.1, w9 cA a1.2.2.2 v1.2.2]) (rest := []) (st1 := []) ⟨hx, hb, hml, hown, hts⟩ hz hw hA (mX9_copyFrom l D cA cR a0.2.1 v0.1 a1.2.1 v1.1 o1 hso1) gX1_copyFrom_X9_copyFrom rfl rfl rfl (by decide +kernel) rfl ⟨Nat.le_of_ble_eq_true rfl, Nat.le_of_ble_eq_true rfl⟩ rfl rfl hl.1 rfl (Nat.le_of_ble_eq_true rfl) dX1_copyFrom_8 ⟨Nat.le_of_ble_eq_true rfl, Nat.le_of_ble_eq_true rfl⟩ [1, 5] [0, 2, 3, 4, 6, 7] [0, 6, 1, 2, 3, 7, 4, 5] rfl rfl rfl rfl rfl rfl (fun H locs hw => ?_)
  refine lv_aload_n hx hb dX1_copyFrom_11 rfl (lv_at hl 0 rfl) ?_
  refine k_get (ci := 1) (v := .ref a0.2.2.1.1) (C := RX1) (T := TX1) (N := 3) hx hb hts hown hz hw (by decide +kernel) 0 rfl rfl 1 (by decide) (hts (.fieldLink RX1 20 "OccupancyMonitor$Detectors" "latest" "LOccupancyMonitor$Table;") (by decide +kernel)) (fun _ h9 => h9) rfl dX1_copyFrom_12 ?_
  refine lv_aload_n hx hb dX1_copyFrom_15 rfl (lv_at hl 1 rfl) ?_
  refine k_get (ci := 1) (v := .ref a1.2.2.1.1) (C := RX1) (T := TX1) (N := 3) hx hb hts hown hz hw (by decide +kernel) 4 rfl rfl 1 (by decide) (hts (.fieldLink RX1 20 "OccupancyMonitor$Detectors" "latest" "LOccupancyMonitor$Table;") (by decide +kernel)) (fun _ h9 => h9) rfl dX1_copyFrom_16 ?_
  obtain ⟨o2, hso2, hsp⟩ := bnd_of hsp
  refine k_callV (ci := 9) (C := RX9) (T := TX9) (N := 3) (nA := 1) (As := [.ref a1.2.2.1.1]) (cs := [w9 cA a0.2.2.1 v0.2.1, w9 cA a1.2.2.1 v1.2.1]) (rs := [[(a0.1, .inr (1, [.ref a0.2.1.1, .ref a0.2.2.1.1, .ref a0.2.2.2.1]))], w9 cA a0.2.1 o1, w9 cA a0.2.2.2 v0.2.2, [(a1.1, .inr (1, [.ref a1.2.1.1, .ref a1.2.2.1.1, .ref a1.2.2.2.1]))], w9 cA a1.2.1 v1.1, w9 cA a1.2.2.2 v1.2.2]) (cs1 := [w9 cA a0.2.2.1 o2, w9 cA a1.2.2.1 v1.2.1]) (bs1 := [[(a0.1, .inr (1, [.ref a0.2.1.1, .ref a0.2.2.1.1, .ref a0.2.2.2.1]))], w9 cA a0.2.1 o1, w9 cA a0.2.2.1 o2, w9 cA a0.2.2.2 v0.2.2, [(a1.1, .inr (1, [.ref a1.2.1.1, .ref a1.2.2.1.1, .ref a1.2.2.2.1]))], w9 cA a1.2.1 v1.1, w9 cA a1.2.2.1 v1.2.1, w9 cA a1.2.2.2 v1.2.2]) (rest := []) (st1 := []) ⟨hx, hb, hml, hown, hts⟩ hz hw hA (mX9_copyFrom l D cA cR a0.2.2.1 v0.2.1 a1.2.2.1 v1.2.1 o2 hso2) gX1_copyFrom_X9_copyFrom rfl rfl rfl (by decide +kernel) rfl ⟨Nat.le_of_ble_eq_true rfl, Nat.le_of_ble_eq_true rfl⟩ rfl rfl hl.1 rfl (Nat.le_of_ble_eq_true rfl) dX1_copyFrom_19 ⟨Nat.le_of_ble_eq_true rfl, Nat.le_of_ble_eq_true rfl⟩ [2, 6] [0, 1, 3, 4, 5, 7] [0, 1, 6, 2, 3, 4, 7, 5] rfl rfl rfl rfl rfl rfl (fun H locs hw => ?_)
  refine lv_aload_n hx hb dX1_copyFrom_22 rfl (lv_at hl 0 rfl) ?_
  refine k_get (ci := 1) (v := .ref a0.2.2.2.1) (C := RX1) (T := TX1) (N := 3) hx hb hts hown hz hw (by decide +kernel) 0 rfl rfl 2 (by decide) (hts (.fieldLink RX1 23 "OccupancyMonitor$Detectors" "masks" "LOccupancyMonitor$Table;") (by decide +kernel)) (fun _ h9 => h9) rfl dX1_copyFrom_23 ?_
  refine lv_aload_n hx hb dX1_copyFrom_26 rfl (lv_at hl 1 rfl) ?_
  refine k_get (ci := 1) (v := .ref a1.2.2.2.1) (C := RX1) (T := TX1) (N := 3) hx hb hts hown hz hw (by decide +kernel) 4 rfl rfl 2 (by decide) (hts (.fieldLink RX1 23 "OccupancyMonitor$Detectors" "masks" "LOccupancyMonitor$Table;") (by decide +kernel)) (fun _ h9 => h9) rfl dX1_copyFrom_27 ?_
  obtain ⟨o3, hso3, hsp⟩ := bnd_of hsp
  refine k_callV (ci := 9) (C := RX9) (T := TX9) (N := 3) (nA := 1) (As := [.ref a1.2.2.2.1]) (cs := [w9 cA a0.2.2.2 v0.2.2, w9 cA a1.2.2.2 v1.2.2]) (rs := [[(a0.1, .inr (1, [.ref a0.2.1.1, .ref a0.2.2.1.1, .ref a0.2.2.2.1]))], w9 cA a0.2.1 o1, w9 cA a0.2.2.1 o2, [(a1.1, .inr (1, [.ref a1.2.1.1, .ref a1.2.2.1.1, .ref a1.2.2.2.1]))], w9 cA a1.2.1 v1.1, w9 cA a1.2.2.1 v1.2.1]) (cs1 := [w9 cA a0.2.2.2 o3, w9 cA a1.2.2.2 v1.2.2]) (bs1 := [[(a0.1, .inr (1, [.ref a0.2.1.1, .ref a0.2.2.1.1, .ref a0.2.2.2.1]))], w9 cA a0.2.1 o1, w9 cA a0.2.2.1 o2, w9 cA a0.2.2.2 o3, [(a1.1, .inr (1, [.ref a1.2.1.1, .ref a1.2.2.1.1, .ref a1.2.2.2.1]))], w9 cA a1.2.1 v1.1, w9 cA a1.2.2.1 v1.2.1, w9 cA a1.2.2.2 v1.2.2]) (rest := []) (st1 := []) ⟨hx, hb, hml, hown, hts⟩ hz hw hA (mX9_copyFrom l D cA cR a0.2.2.2 v0.2.2 a1.2.2.2 v1.2.2 o3 hso3) gX1_copyFrom_X9_copyFrom rfl rfl rfl (by decide +kernel) rfl ⟨Nat.le_of_ble_eq_true rfl, Nat.le_of_ble_eq_true rfl⟩ rfl rfl hl.1 rfl (Nat.le_of_ble_eq_true rfl) dX1_copyFrom_30 ⟨Nat.le_of_ble_eq_true rfl, Nat.le_of_ble_eq_true rfl⟩ [3, 7] [0, 1, 2, 4, 5, 6] [0, 1, 2, 6, 3, 4, 5, 7] rfl rfl rfl rfl rfl rfl (fun H locs hw => ?_)
  have hsp := Option.some.inj hsp
  subst hsp
  have hw : ww A s.heap D [w1 cA a0 (o1, o2, o3), w1 cA a1 v1] H locs := hw
  subst hQ
  exact k_vret hx hb hr hlk hw dX1_copyFrom_33
