noncomputable def qX6_skipSpaces_0 (v0 : V6) : Nat → Int32 → Option (Int32)
  | 0, _ => none
  | n0 + 1, z0_0 => (if v0.1.2 ≤ z0_0 then (some z0_0) else ((sX0_byteAt v0.1 z0_0).bind (fun o9 => (if o9 = (32 : Int32) then (qX6_skipSpaces_0 v0 n0 (z0_0 + (1 : Int32))) else (some z0_0)))))
noncomputable def sX6_skipSpaces (N : Nat) (v0 : V6) : Option (V6) := ((qX6_skipSpaces_0 v0 N v0.2.2.1).bind (fun o7 => (some (v0.1, v0.2.1, o7, v0.2.2.2))))
abbrev rX6_skipSpaces : Room := { frames := 2, cells := 0, slots := 0, locals := 42 }
set_option maxHeartbeats 4000000 in
set_option maxRecDepth 100000 in
theorem mX6_skipSpaces (l : Launch) (D : va_G) (cA cR : ClassId) (N : Nat) (a0 : A6) (v0 : V6) (o : V6) (hsp : sX6_skipSpaces N v0 = some o) : MI l yX6_skipSpaces wsX6_skipSpaces rX6_skipSpaces D cA cR [.ref a0.1] [w6 cA a0 v0] none [w6 cA a0 o] 0 0 := by
  have hsp : ((qX6_skipSpaces_0 v0 N v0.2.2.1).bind (fun o7 => (some (v0.1, v0.2.1, o7, v0.2.2.2)))) = some o := hsp
  refine MI.ofW (cc := cX6_skipSpaces) (maxL := 1) (ret := none) (by decide) rfl (Nat.le_of_ble_eq_true rfl) ?_
  intro p e s m args below meth c A ls Q H locs hx hb hr hlk hml hown hnm hts hz hA hQ hw hl
  have hl : lv_has ls 1 [(0, .ref a0.1)] := hl
  have hw : ww A s.heap D [[(a0.1, .inr (6, [.ref a0.2.1.1, .ref a0.2.2.1, .int v0.2.2.1, .int v0.2.2.2]))], [(a0.2.1.1, .inr (0, [.ref a0.2.1.2, .int v0.1.2]))], [(a0.2.1.2, .inl (cA, v0.1.1.1, .inl v0.1.1.2))], w5 cA a0.2.2 v0.2.1] H locs := hw
  have L0 : ∀ (n0 : Nat) (z0_0 : Int32) (o7 : Int32), qX6_skipSpaces_0 v0 n0 z0_0 = some o7 → ∀ (H : Heap) (locs : List Loc) (ls : Array Slot), ww A s.heap D [[(a0.1, .inr (6, [.ref a0.2.1.1, .ref a0.2.2.1, .int z0_0, .int v0.2.2.2]))], [(a0.2.1.1, .inr (0, [.ref a0.2.1.2, .int v0.1.2]))], [(a0.2.1.2, .inl (cA, v0.1.1.1, .inl v0.1.1.2))], w5 cA a0.2.2 v0.2.1] H locs → lv_has ls 1 [(0, .ref a0.1)] → (∀ (y43 : Int32), o7 = y43 → ∀ (H : Heap) (locs : List Loc) (ls : Array Slot), ww A s.heap D [[(a0.1, .inr (6, [.ref a0.2.1.1, .ref a0.2.2.1, .int y43, .int v0.2.2.2]))], [(a0.2.1.1, .inr (0, [.ref a0.2.1.2, .int v0.1.2]))], [(a0.2.1.2, .inl (cA, v0.1.1.1, .inl v0.1.1.2))], w5 cA a0.2.2 v0.2.1] H locs → lv_has ls 1 [(0, .ref a0.1)] → W p l e rX6_skipSpaces s m args below meth c H locs 0 0 Q (F0 m 43 ls [])) → W p l e rX6_skipSpaces s m args below meth c H locs 0 0 Q (F0 m 0 ls []) := by
    intro n0
    induction n0 with
    | zero => intro z0_0 o7 hsp; cases hsp
    | succ n0 ih0 =>
      intro z0_0 o7 hsp H locs ls hw hl kx0_43
      have hsp : (if v0.1.2 ≤ z0_0 then (some z0_0) else ((sX0_byteAt v0.1 z0_0).bind (fun o9 => (if o9 = (32 : Int32) then (qX6_skipSpaces_0 v0 n0 (z0_0 + (1 : Int32))) else (some z0_0))))) = some o7 := hsp
      refine lv_aload_n hx hb dX6_skipSpaces_0 rfl (lv_at hl 0 rfl) ?_
      refine k_get (ci := 6) (v := .int z0_0) (C := RX6) (T := TX6) (N := 4) hx hb hts hown hz hw (by decide +kernel) 0 rfl rfl 2 (by decide) (hts (.fieldLink RX6 27 "OccupancyMonitor$PlanParser" "position" "I") (by decide +kernel)) (fun _ h9 => h9) rfl dX6_skipSpaces_1 ?_
      refine lv_aload_n hx hb dX6_skipSpaces_4 rfl (lv_at hl 0 rfl) ?_
      refine k_get (ci := 6) (v := .ref a0.2.1.1) (C := RX6) (T := TX6) (N := 4) hx hb hts hown hz hw (by decide +kernel) 0 rfl rfl 0 (by decide) (hts (.fieldLink RX6 14 "OccupancyMonitor$PlanParser" "text" "LOccupancyMonitor$Bytes;") (by decide +kernel)) (fun _ h9 => h9) rfl dX6_skipSpaces_5 ?_
      refine k_getN (ci := 0) (v := .int v0.1.2) (C := RX0) (T := TX0) (N := 2) (host := "OccupancyMonitor") hx hb hts hown hz hw (by decide +kernel) 1 rfl rfl 1 (by decide) (by decide +kernel) (fun _ h9 => h9) rfl dX6_skipSpaces_8 ?_
      refine lv_icmp_ge (tgt := 43) hx hb dX6_skipSpaces_11 (by decide) (fun c8 => ?_) (fun c8 => ?_)
      · have hsp := ift c8 hsp
        have hsp := Option.some.inj hsp
        subst hsp
        exact kx0_43 _ rfl _ _ _ hw (lv_sub hl [0] rfl)
      · have hsp := iff_ c8 hsp
        refine lv_aload_n hx hb dX6_skipSpaces_14 rfl (lv_at hl 0 rfl) ?_
        refine k_get (ci := 6) (v := .ref a0.2.1.1) (C := RX6) (T := TX6) (N := 4) hx hb hts hown hz hw (by decide +kernel) 0 rfl rfl 0 (by decide) (hts (.fieldLink RX6 14 "OccupancyMonitor$PlanParser" "text" "LOccupancyMonitor$Bytes;") (by decide +kernel)) (fun _ h9 => h9) rfl dX6_skipSpaces_15 ?_
        refine lv_aload_n hx hb dX6_skipSpaces_18 rfl (lv_at hl 0 rfl) ?_
        refine k_get (ci := 6) (v := .int z0_0) (C := RX6) (T := TX6) (N := 4) hx hb hts hown hz hw (by decide +kernel) 0 rfl rfl 2 (by decide) (hts (.fieldLink RX6 27 "OccupancyMonitor$PlanParser" "position" "I") (by decide +kernel)) (fun _ h9 => h9) rfl dX6_skipSpaces_19 ?_
        have hw : ww A s.heap D [[(a0.1, .inr (6, [.ref a0.2.1.1, .ref a0.2.2.1, .int z0_0, .int v0.2.2.2]))], w0 cA a0.2.1 v0.1, w5 cA a0.2.2 v0.2.1] H locs := hw
        obtain ⟨o9, hso9, hsp⟩ := bnd_of hsp
        refine k_callV (ci := 0) (C := RX0) (T := TX0) (N := 2) (nA := 1) (As := [.int z0_0]) (cs := [w0 cA a0.2.1 v0.1]) (rs := [[(a0.1, .inr (6, [.ref a0.2.1.1, .ref a0.2.2.1, .int z0_0, .int v0.2.2.2]))], w5 cA a0.2.2 v0.2.1]) (cs1 := [w0 cA a0.2.1 v0.1]) (bs1 := [[(a0.1, .inr (6, [.ref a0.2.1.1, .ref a0.2.2.1, .int z0_0, .int v0.2.2.2]))], w0 cA a0.2.1 v0.1, w5 cA a0.2.2 v0.2.1]) (rest := []) (st1 := [.int o9]) ⟨hx, hb, hml, hown, hts⟩ hz hw hA (mX0_byteAt l D cA cR a0.2.1 v0.1 z0_0 o9 hso9) gX6_skipSpaces_X0_byteAt rfl rfl rfl (by decide +kernel) rfl ⟨Nat.le_of_ble_eq_true rfl, Nat.le_of_ble_eq_true rfl⟩ rfl rfl hl.1 rfl (Nat.le_of_ble_eq_true rfl) dX6_skipSpaces_22 ⟨Nat.le_of_ble_eq_true rfl, Nat.le_of_ble_eq_true rfl⟩ [1] [0, 2] [0, 2, 1] rfl rfl rfl rfl rfl rfl (fun H locs hw => ?_)
        have hw : ww A s.heap D [[(a0.1, .inr (6, [.ref a0.2.1.1, .ref a0.2.2.1, .int z0_0, .int v0.2.2.2]))], [(a0.2.1.1, .inr (0, [.ref a0.2.1.2, .int v0.1.2]))], [(a0.2.1.2, .inl (cA, v0.1.1.1, .inl v0.1.1.2))], w5 cA a0.2.2 v0.2.1] H locs := hw
        refine lv_bipush (v := 32) hx hb dX6_skipSpaces_25 (by decide) ?_
        refine lv_icmp_ne (tgt := 43) hx hb dX6_skipSpaces_27 (by decide) (fun c10 => ?_) (fun c10 => ?_)
        · have hsp := iff_ c10 hsp
          have hsp := Option.some.inj hsp
          subst hsp
          exact kx0_43 _ rfl _ _ _ hw (lv_sub hl [0] rfl)
        · have hsp := ift c10 hsp
          refine lv_aload_n hx hb dX6_skipSpaces_30 rfl (lv_at hl 0 rfl) ?_
          refine lv_dup hx hb dX6_skipSpaces_31 rfl ?_
          refine k_get (ci := 6) (v := .int z0_0) (C := RX6) (T := TX6) (N := 4) hx hb hts hown hz hw (by decide +kernel) 0 rfl rfl 2 (by decide) (hts (.fieldLink RX6 27 "OccupancyMonitor$PlanParser" "position" "I") (by decide +kernel)) (fun _ h9 => h9) rfl dX6_skipSpaces_32 ?_
          refine lv_iconst (v := 1) hx hb dX6_skipSpaces_35 (by decide) ?_
          refine lv_iadd hx hb dX6_skipSpaces_36 ?_
          refine k_put (ci := 6) (v := .int (z0_0 + (1 : Int32))) (ty := .int) (C := RX6) (T := TX6) (N := 4) (bs1 := [[(a0.1, .inr (6, [.ref a0.2.1.1, .ref a0.2.2.1, .int (z0_0 + (1 : Int32)), .int v0.2.2.2]))], [(a0.2.1.1, .inr (0, [.ref a0.2.1.2, .int v0.1.2]))], [(a0.2.1.2, .inl (cA, v0.1.1.1, .inl v0.1.1.2))], w5 cA a0.2.2 v0.2.1]) hx hb hts hown hz hw (by decide +kernel) tyX6 tyX6_ok nmX6 0 rfl rfl 2 (by decide) (hts (.fieldLink RX6 27 "OccupancyMonitor$PlanParser" "position" "I") (by decide +kernel)) (fun _ h9 => h9) rfl (by decide +kernel) rfl rfl (Nat.le_of_ble_eq_true rfl) dX6_skipSpaces_37 rfl (fun H locs hw => ?_)
          refine lv_goto (tgt := 0) hx hb dX6_skipSpaces_40 (by decide) ?_
          exact ih0 (z0_0 + (1 : Int32)) _ hsp _ _ _ hw (lv_sub hl [0] rfl) kx0_43
  obtain ⟨o7, hso7, hsp⟩ := bnd_of hsp
  refine L0 N v0.2.2.1 _ hso7 _ _ _ hw (lv_sub hl [0] rfl) (fun y43 hy43 H locs ls hw hl => ?_)
  cases hy43
  have hsp := Option.some.inj hsp
  subst hsp
  have hw : ww A s.heap D [w6 cA a0 (v0.1, v0.2.1, o7, v0.2.2.2)] H locs := hw
  subst hQ
  exact k_vret hx hb hr hlk hw dX6_skipSpaces_43
noncomputable def sX6_fail (v0 : V6) (p1 : Int32) : Option (V6) := (if v0.2.2.2 = (-1 : Int32) then (some (v0.1, v0.2.1, v0.2.2.1, p1)) else (some v0))
abbrev rX6_fail : Room := { frames := 0, cells := 0, slots := 0, locals := 0 }
set_option maxHeartbeats 4000000 in
set_option maxRecDepth 100000 in
theorem mX6_fail (l : Launch) (D : va_G) (cA cR : ClassId) (a0 : A6) (v0 : V6) (p1 : Int32) (o : V6) (hsp : sX6_fail v0 p1 = some o) : MI l yX6_fail wsX6_fail rX6_fail D cA cR [.ref a0.1, .int p1] [w6 cA a0 v0] none [w6 cA a0 o] 0 0 := by
  have hsp : (if v0.2.2.2 = (-1 : Int32) then (some (v0.1, v0.2.1, v0.2.2.1, p1)) else (some v0)) = some o := hsp
  refine MI.ofW (cc := cX6_fail) (maxL := 2) (ret := none) (by decide) rfl (Nat.le_of_ble_eq_true rfl) ?_
  intro p e s m args below meth c A ls Q H locs hx hb hr hlk hml hown hnm hts hz hA hQ hw hl
  have hl : lv_has ls 2 [(0, .ref a0.1), (1, .int p1)] := hl
  have hw : ww A s.heap D [[(a0.1, .inr (6, [.ref a0.2.1.1, .ref a0.2.2.1, .int v0.2.2.1, .int v0.2.2.2]))], w0 cA a0.2.1 v0.1, w5 cA a0.2.2 v0.2.1] H locs := hw
  refine lv_aload_n hx hb dX6_fail_0 rfl (lv_at hl 0 rfl) ?_
  refine k_get (ci := 6) (v := .int v0.2.2.2) (C := RX6) (T := TX6) (N := 4) hx hb hts hown hz hw (by decide +kernel) 0 rfl rfl 3 (by decide) (hts (.fieldLink RX6 31 "OccupancyMonitor$PlanParser" "error" "I") (by decide +kernel)) (fun _ h9 => h9) rfl dX6_fail_1 ?_
  refine lv_iconst (v := -1) hx hb dX6_fail_4 (by decide) ?_
  refine lv_icmp_ne (tgt := 13) hx hb dX6_fail_5 (by decide) (fun c1 => ?_) (fun c1 => ?_)
  · have hsp := iff_ c1 hsp
    have hsp := Option.some.inj hsp
    subst hsp
    have hw : ww A s.heap D [w6 cA a0 v0] H locs := hw
    subst hQ
    exact k_vret hx hb hr hlk hw dX6_fail_13
  · have hsp := ift c1 hsp
    refine lv_aload_n hx hb dX6_fail_8 rfl (lv_at hl 0 rfl) ?_
    refine lv_iload_n hx hb dX6_fail_9 rfl (lv_at hl 1 rfl) ?_
    refine k_put (ci := 6) (v := .int p1) (ty := .int) (C := RX6) (T := TX6) (N := 4) (bs1 := [[(a0.1, .inr (6, [.ref a0.2.1.1, .ref a0.2.2.1, .int v0.2.2.1, .int p1]))], w0 cA a0.2.1 v0.1, w5 cA a0.2.2 v0.2.1]) hx hb hts hown hz hw (by decide +kernel) tyX6 tyX6_ok nmX6 0 rfl rfl 3 (by decide) (hts (.fieldLink RX6 31 "OccupancyMonitor$PlanParser" "error" "I") (by decide +kernel)) (fun _ h9 => h9) rfl (by decide +kernel) rfl rfl (Nat.le_of_ble_eq_true rfl) dX6_fail_10 rfl (fun H locs hw => ?_)
    have hsp := Option.some.inj hsp
    subst hsp
    have hw : ww A s.heap D [w6 cA a0 (v0.1, v0.2.1, v0.2.2.1, p1)] H locs := hw
    subst hQ
    exact k_vret hx hb hr hlk hw dX6_fail_13
noncomputable def sX6_isDigit (v0 : V6) (p1 : Int32) : Option (Int32) := ((sX0_byteAt v0.1 p1).bind (fun o1 => (if o1 < (48 : Int32) then (some (0 : Int32)) else (if (57 : Int32) < o1 then (some (0 : Int32)) else (some (1 : Int32))))))
abbrev rX6_isDigit : Room := { frames := 2, cells := 0, slots := 0, locals := 42 }
set_option maxHeartbeats 4000000 in
set_option maxRecDepth 100000 in
theorem mX6_isDigit (l : Launch) (D : va_G) (cA cR : ClassId) (a0 : A6) (v0 : V6) (p1 : Int32) (o : Int32) (hsp : sX6_isDigit v0 p1 = some o) : MI l yX6_isDigit wsX6_isDigit rX6_isDigit D cA cR [.ref a0.1, .int p1] [w6 cA a0 v0] (some (.int o)) [w6 cA a0 v0] 0 0 := by
  have hsp : ((sX0_byteAt v0.1 p1).bind (fun o1 => (if o1 < (48 : Int32) then (some (0 : Int32)) else (if (57 : Int32) < o1 then (some (0 : Int32)) else (some (1 : Int32)))))) = some o := hsp
  refine MI.ofW (cc := cX6_isDigit) (maxL := 3) (ret := (some .boolean)) (by decide) rfl (Nat.le_of_ble_eq_true rfl) ?_
  intro p e s m args below meth c A ls Q H locs hx hb hr hlk hml hown hnm hts hz hA hQ hw hl
  have hl : lv_has ls 3 [(0, .ref a0.1), (1, .int p1)] := hl
  have hw : ww A s.heap D [[(a0.1, .inr (6, [.ref a0.2.1.1, .ref a0.2.2.1, .int v0.2.2.1, .int v0.2.2.2]))], w0 cA a0.2.1 v0.1, w5 cA a0.2.2 v0.2.1] H locs := hw
  refine lv_aload_n hx hb dX6_isDigit_0 rfl (lv_at hl 0 rfl) ?_
  refine k_get (ci := 6) (v := .ref a0.2.1.1) (C := RX6) (T := TX6) (N := 4) hx hb hts hown hz hw (by decide +kernel) 0 rfl rfl 0 (by decide) (hts (.fieldLink RX6 14 "OccupancyMonitor$PlanParser" "text" "LOccupancyMonitor$Bytes;") (by decide +kernel)) (fun _ h9 => h9) rfl dX6_isDigit_1 ?_
  refine lv_iload_n hx hb dX6_isDigit_4 rfl (lv_at hl 1 rfl) ?_
  obtain ⟨o1, hso1, hsp⟩ := bnd_of hsp
  refine k_callV (ci := 0) (C := RX0) (T := TX0) (N := 2) (nA := 1) (As := [.int p1]) (cs := [w0 cA a0.2.1 v0.1]) (rs := [[(a0.1, .inr (6, [.ref a0.2.1.1, .ref a0.2.2.1, .int v0.2.2.1, .int v0.2.2.2]))], w5 cA a0.2.2 v0.2.1]) (cs1 := [w0 cA a0.2.1 v0.1]) (bs1 := [[(a0.1, .inr (6, [.ref a0.2.1.1, .ref a0.2.2.1, .int v0.2.2.1, .int v0.2.2.2]))], w0 cA a0.2.1 v0.1, w5 cA a0.2.2 v0.2.1]) (rest := []) (st1 := [.int o1]) ⟨hx, hb, hml, hown, hts⟩ hz hw hA (mX0_byteAt l D cA cR a0.2.1 v0.1 p1 o1 hso1) gX6_isDigit_X0_byteAt rfl rfl rfl (by decide +kernel) rfl ⟨Nat.le_of_ble_eq_true rfl, Nat.le_of_ble_eq_true rfl⟩ rfl rfl hl.1 rfl (Nat.le_of_ble_eq_true rfl) dX6_isDigit_5 ⟨Nat.le_of_ble_eq_true rfl, Nat.le_of_ble_eq_true rfl⟩ [1] [0, 2] [0, 2, 1] rfl rfl rfl rfl rfl rfl (fun H locs hw => ?_)
  refine lv_istore_n (lv' := [(2, .int o1), (0, .ref a0.1), (1, .int p1)]) hx hb dX6_isDigit_8 rfl hl (by decide) rfl (fun ls hl => ?_)
  refine lv_iload_n hx hb dX6_isDigit_9 rfl (lv_at hl 0 rfl) ?_
  refine lv_bipush (v := 48) hx hb dX6_isDigit_10 (by decide) ?_
  refine lv_icmp_lt (tgt := 25) hx hb dX6_isDigit_12 (by decide) (fun c2 => ?_) (fun c2 => ?_)
  · have hsp := ift c2 hsp
    refine lv_iconst (v := 0) hx hb dX6_isDigit_25 (by decide) ?_
    have hsp := Option.some.inj hsp
    subst hsp
    have hw : ww A s.heap D [w6 cA a0 v0] H locs := hw
    subst hQ
    exact k_zret (v := (0 : Int32)) hx hb hr hlk rfl hw dX6_isDigit_26
  · have hsp := iff_ c2 hsp
    refine lv_iload_n hx hb dX6_isDigit_15 rfl (lv_at hl 0 rfl) ?_
    refine lv_bipush (v := 57) hx hb dX6_isDigit_16 (by decide) ?_
    refine lv_icmp_gt (tgt := 25) hx hb dX6_isDigit_18 (by decide) (fun c3 => ?_) (fun c3 => ?_)
    · have hsp := ift c3 hsp
      refine lv_iconst (v := 0) hx hb dX6_isDigit_25 (by decide) ?_
      have hsp := Option.some.inj hsp
      subst hsp
      have hw : ww A s.heap D [w6 cA a0 v0] H locs := hw
      subst hQ
      exact k_zret (v := (0 : Int32)) hx hb hr hlk rfl hw dX6_isDigit_26
    · have hsp := iff_ c3 hsp
      refine lv_iconst (v := 1) hx hb dX6_isDigit_21 (by decide) ?_
      refine lv_goto (tgt := 26) hx hb dX6_isDigit_22 (by decide) ?_
      have hsp := Option.some.inj hsp
      subst hsp
      have hw : ww A s.heap D [w6 cA a0 v0] H locs := hw
      subst hQ
      exact k_zret (v := (1 : Int32)) hx hb hr hlk rfl hw dX6_isDigit_26
noncomputable def sX6_readDigit (v0 : V6) : Option (Int32 × V6) := ((sX0_byteAt v0.1 v0.2.2.1).bind (fun o1 => (some ((o1 - (48 : Int32)), (v0.1, v0.2.1, (v0.2.2.1 + (1 : Int32)), v0.2.2.2)))))
abbrev rX6_readDigit : Room := { frames := 2, cells := 0, slots := 0, locals := 42 }
set_option maxHeartbeats 4000000 in
set_option maxRecDepth 100000 in
theorem mX6_readDigit (l : Launch) (D : va_G) (cA cR : ClassId) (a0 : A6) (v0 : V6) (o : Int32 × V6) (hsp : sX6_readDigit v0 = some o) : MI l yX6_readDigit wsX6_readDigit rX6_readDigit D cA cR [.ref a0.1] [w6 cA a0 v0] (some (.int o.1)) [w6 cA a0 o.2] 0 0 := by
  have hsp : ((sX0_byteAt v0.1 v0.2.2.1).bind (fun o1 => (some ((o1 - (48 : Int32)), (v0.1, v0.2.1, (v0.2.2.1 + (1 : Int32)), v0.2.2.2))))) = some o := hsp
  refine MI.ofW (cc := cX6_readDigit) (maxL := 2) (ret := (some .int)) (by decide) rfl (Nat.le_of_ble_eq_true rfl) ?_
  intro p e s m args below meth c A ls Q H locs hx hb hr hlk hml hown hnm hts hz hA hQ hw hl
  have hl : lv_has ls 2 [(0, .ref a0.1)] := hl
  have hw : ww A s.heap D [[(a0.1, .inr (6, [.ref a0.2.1.1, .ref a0.2.2.1, .int v0.2.2.1, .int v0.2.2.2]))], w0 cA a0.2.1 v0.1, w5 cA a0.2.2 v0.2.1] H locs := hw
  refine lv_aload_n hx hb dX6_readDigit_0 rfl (lv_at hl 0 rfl) ?_
  refine k_get (ci := 6) (v := .ref a0.2.1.1) (C := RX6) (T := TX6) (N := 4) hx hb hts hown hz hw (by decide +kernel) 0 rfl rfl 0 (by decide) (hts (.fieldLink RX6 14 "OccupancyMonitor$PlanParser" "text" "LOccupancyMonitor$Bytes;") (by decide +kernel)) (fun _ h9 => h9) rfl dX6_readDigit_1 ?_
  refine lv_aload_n hx hb dX6_readDigit_4 rfl (lv_at hl 0 rfl) ?_
  refine k_get (ci := 6) (v := .int v0.2.2.1) (C := RX6) (T := TX6) (N := 4) hx hb hts hown hz hw (by decide +kernel) 0 rfl rfl 2 (by decide) (hts (.fieldLink RX6 27 "OccupancyMonitor$PlanParser" "position" "I") (by decide +kernel)) (fun _ h9 => h9) rfl dX6_readDigit_5 ?_
  obtain ⟨o1, hso1, hsp⟩ := bnd_of hsp
  refine k_callV (ci := 0) (C := RX0) (T := TX0) (N := 2) (nA := 1) (As := [.int v0.2.2.1]) (cs := [w0 cA a0.2.1 v0.1]) (rs := [[(a0.1, .inr (6, [.ref a0.2.1.1, .ref a0.2.2.1, .int v0.2.2.1, .int v0.2.2.2]))], w5 cA a0.2.2 v0.2.1]) (cs1 := [w0 cA a0.2.1 v0.1]) (bs1 := [[(a0.1, .inr (6, [.ref a0.2.1.1, .ref a0.2.2.1, .int v0.2.2.1, .int v0.2.2.2]))], w0 cA a0.2.1 v0.1, w5 cA a0.2.2 v0.2.1]) (rest := []) (st1 := [.int o1]) ⟨hx, hb, hml, hown, hts⟩ hz hw hA (mX0_byteAt l D cA cR a0.2.1 v0.1 v0.2.2.1 o1 hso1) gX6_readDigit_X0_byteAt rfl rfl rfl (by decide +kernel) rfl ⟨Nat.le_of_ble_eq_true rfl, Nat.le_of_ble_eq_true rfl⟩ rfl rfl hl.1 rfl (Nat.le_of_ble_eq_true rfl) dX6_readDigit_8 ⟨Nat.le_of_ble_eq_true rfl, Nat.le_of_ble_eq_true rfl⟩ [1] [0, 2] [0, 2, 1] rfl rfl rfl rfl rfl rfl (fun H locs hw => ?_)
  refine lv_bipush (v := 48) hx hb dX6_readDigit_11 (by decide) ?_
  refine lv_isub hx hb dX6_readDigit_13 ?_
  refine lv_istore_n (lv' := [(1, .int (o1 - (48 : Int32))), (0, .ref a0.1)]) hx hb dX6_readDigit_14 rfl hl (by decide) rfl (fun ls hl => ?_)
  refine lv_aload_n hx hb dX6_readDigit_15 rfl (lv_at hl 1 rfl) ?_
  refine lv_dup hx hb dX6_readDigit_16 rfl ?_
  refine k_get (ci := 6) (v := .int v0.2.2.1) (C := RX6) (T := TX6) (N := 4) hx hb hts hown hz hw (by decide +kernel) 0 rfl rfl 2 (by decide) (hts (.fieldLink RX6 27 "OccupancyMonitor$PlanParser" "position" "I") (by decide +kernel)) (fun _ h9 => h9) rfl dX6_readDigit_17 ?_
  refine lv_iconst (v := 1) hx hb dX6_readDigit_20 (by decide) ?_
  refine lv_iadd hx hb dX6_readDigit_21 ?_
  refine k_put (ci := 6) (v := .int (v0.2.2.1 + (1 : Int32))) (ty := .int) (C := RX6) (T := TX6) (N := 4) (bs1 := [[(a0.1, .inr (6, [.ref a0.2.1.1, .ref a0.2.2.1, .int (v0.2.2.1 + (1 : Int32)), .int v0.2.2.2]))], w0 cA a0.2.1 v0.1, w5 cA a0.2.2 v0.2.1]) hx hb hts hown hz hw (by decide +kernel) tyX6 tyX6_ok nmX6 0 rfl rfl 2 (by decide) (hts (.fieldLink RX6 27 "OccupancyMonitor$PlanParser" "position" "I") (by decide +kernel)) (fun _ h9 => h9) rfl (by decide +kernel) rfl rfl (Nat.le_of_ble_eq_true rfl) dX6_readDigit_22 rfl (fun H locs hw => ?_)
  refine lv_iload_n hx hb dX6_readDigit_25 rfl (lv_at hl 0 rfl) ?_
  have hsp := Option.some.inj hsp
  subst hsp
  have hw : ww A s.heap D [w6 cA a0 (v0.1, v0.2.1, (v0.2.2.1 + (1 : Int32)), v0.2.2.2)] H locs := hw
  subst hQ
  exact k_iret hx hb hr hlk hw dX6_readDigit_26
noncomputable def sX6_readNumber (v0 : V6) (p1 : Int32) (p2 : Int32) : Option (Int32 × V6) := ((sX6_isDigit v0 v0.2.2.1).bind (fun o1 => (if o1 = 0 then ((sX6_fail v0 v0.2.2.1).bind (fun o20 => (some ((-1 : Int32), o20)))) else ((sX6_readDigit v0).bind (fun o3 => ((sX6_isDigit o3.2 o3.2.2.2.1).bind (fun o4 => (((if o4 = 0 then (some (o3.1, o3.2.1, o3.2.2.1, o3.2.2.2.1, o3.2.2.2.2)) else ((sX6_readDigit o3.2).bind (fun o19 => (some ((((10 : Int32) * o3.1) + o19.1), o19.2.1, o19.2.2.1, o19.2.2.2.1, o19.2.2.2.2))))) : Option (Int32 × V0 × V5 × Int32 × Int32)).bind (fun j7 => ((sX6_isDigit j7.2 j7.2.2.2.1).bind (fun o8 => (((if o8 = 0 then (some (j7.2.1, j7.2.2.1, j7.2.2.2.1, j7.2.2.2.2)) else ((sX6_fail j7.2 j7.2.2.2.1).bind (fun o17 => (some (o17.1, o17.2.1, o17.2.2.1, o17.2.2.2))))) : Option (V0 × V5 × Int32 × Int32)).bind (fun j11 => (if j7.1 < p1 then ((sX6_fail j11 v0.2.2.1).bind (fun o13 => (some (j7.1, o13)))) else (if j7.1 ≤ p2 then (some (j7.1, j11)) else ((sX6_fail j11 v0.2.2.1).bind (fun o15 => (some (j7.1, o15)))))))))))))))))))
abbrev rX6_readNumber : Room := { frames := 3, cells := 0, slots := 0, locals := 64 }
set_option maxHeartbeats 4000000 in
set_option maxRecDepth 100000 in
theorem mX6_readNumber (l : Launch) (D : va_G) (cA cR : ClassId) (a0 : A6) (v0 : V6) (p1 : Int32) (p2 : Int32) (o : Int32 × V6) (hsp : sX6_readNumber v0 p1 p2 = some o) : MI l yX6_readNumber wsX6_readNumber rX6_readNumber D cA cR [.ref a0.1, .int p1, .int p2] [w6 cA a0 v0] (some (.int o.1)) [w6 cA a0 o.2] 0 0 := by
  have hsp : ((sX6_isDigit v0 v0.2.2.1).bind (fun o1 => (if o1 = 0 then ((sX6_fail v0 v0.2.2.1).bind (fun o20 => (some ((-1 : Int32), o20)))) else ((sX6_readDigit v0).bind (fun o3 => ((sX6_isDigit o3.2 o3.2.2.2.1).bind (fun o4 => (((if o4 = 0 then (some (o3.1, o3.2.1, o3.2.2.1, o3.2.2.2.1, o3.2.2.2.2)) else ((sX6_readDigit o3.2).bind (fun o19 => (some ((((10 : Int32) * o3.1) + o19.1), o19.2.1, o19.2.2.1, o19.2.2.2.1, o19.2.2.2.2))))) : Option (Int32 × V0 × V5 × Int32 × Int32)).bind (fun j7 => ((sX6_isDigit j7.2 j7.2.2.2.1).bind (fun o8 => (((if o8 = 0 then (some (j7.2.1, j7.2.2.1, j7.2.2.2.1, j7.2.2.2.2)) else ((sX6_fail j7.2 j7.2.2.2.1).bind (fun o17 => (some (o17.1, o17.2.1, o17.2.2.1, o17.2.2.2))))) : Option (V0 × V5 × Int32 × Int32)).bind (fun j11 => (if j7.1 < p1 then ((sX6_fail j11 v0.2.2.1).bind (fun o13 => (some (j7.1, o13)))) else (if j7.1 ≤ p2 then (some (j7.1, j11)) else ((sX6_fail j11 v0.2.2.1).bind (fun o15 => (some (j7.1, o15))))))))))))))))))) = some o := hsp
  refine MI.ofW (cc := cX6_readNumber) (maxL := 5) (ret := (some .int)) (by decide) rfl (Nat.le_of_ble_eq_true rfl) ?_
  intro p e s m args below meth c A ls Q H locs hx hb hr hlk hml hown hnm hts hz hA hQ hw hl
  have hl : lv_has ls 5 [(0, .ref a0.1), (1, .int p1), (2, .int p2)] := hl
  have hw : ww A s.heap D [[(a0.1, .inr (6, [.ref a0.2.1.1, .ref a0.2.2.1, .int v0.2.2.1, .int v0.2.2.2]))], w0 cA a0.2.1 v0.1, w5 cA a0.2.2 v0.2.1] H locs := hw
  refine lv_aload_n hx hb dX6_readNumber_0 rfl (lv_at hl 0 rfl) ?_
  refine k_get (ci := 6) (v := .int v0.2.2.1) (C := RX6) (T := TX6) (N := 4) hx hb hts hown hz hw (by decide +kernel) 0 rfl rfl 2 (by decide) (hts (.fieldLink RX6 27 "OccupancyMonitor$PlanParser" "position" "I") (by decide +kernel)) (fun _ h9 => h9) rfl dX6_readNumber_1 ?_
  refine lv_istore_n (lv' := [(3, .int v0.2.2.1), (0, .ref a0.1), (1, .int p1), (2, .int p2)]) hx hb dX6_readNumber_4 rfl hl (by decide) rfl (fun ls hl => ?_)
  refine lv_aload_n hx hb dX6_readNumber_5 rfl (lv_at hl 1 rfl) ?_
  refine lv_iload_n hx hb dX6_readNumber_6 rfl (lv_at hl 0 rfl) ?_
  have hw : ww A s.heap D [w6 cA a0 v0] H locs := hw
  obtain ⟨o1, hso1, hsp⟩ := bnd_of hsp
  refine k_callV (ci := 6) (C := RX6) (T := TX6) (N := 4) (nA := 1) (As := [.int v0.2.2.1]) (cs := [w6 cA a0 v0]) (rs := []) (cs1 := [w6 cA a0 v0]) (bs1 := [w6 cA a0 v0]) (rest := []) (st1 := [.int o1]) ⟨hx, hb, hml, hown, hts⟩ hz hw hA (mX6_isDigit l D cA cR a0 v0 v0.2.2.1 o1 hso1) gX6_readNumber_X6_isDigit rfl rfl rfl (by decide +kernel) rfl ⟨Nat.le_of_ble_eq_true rfl, Nat.le_of_ble_eq_true rfl⟩ rfl rfl hl.1 rfl (Nat.le_of_ble_eq_true rfl) dX6_readNumber_7 ⟨Nat.le_of_ble_eq_true rfl, Nat.le_of_ble_eq_true rfl⟩ [0] [] [0] rfl rfl rfl rfl rfl rfl (fun H locs hw => ?_)
  have hw : ww A s.heap D [[(a0.1, .inr (6, [.ref a0.2.1.1, .ref a0.2.2.1, .int v0.2.2.1, .int v0.2.2.2]))], w0 cA a0.2.1 v0.1, w5 cA a0.2.2 v0.2.1] H locs := hw
  refine lv_if_ne (tgt := 20) hx hb dX6_readNumber_10 (by decide) (fun c2 => ?_) (fun c2 => ?_)
  · have hsp := iff_ c2 hsp
    refine lv_aload_n hx hb dX6_readNumber_20 rfl (lv_at hl 1 rfl) ?_
    have hw : ww A s.heap D [w6 cA a0 v0] H locs := hw
    obtain ⟨o3, hso3, hsp⟩ := bnd_of hsp
    refine k_callV (ci := 6) (C := RX6) (T := TX6) (N := 4) (nA := 0) (As := []) (cs := [w6 cA a0 v0]) (rs := []) (cs1 := [w6 cA a0 o3.2]) (bs1 := [w6 cA a0 o3.2]) (rest := []) (st1 := [.int o3.1]) ⟨hx, hb, hml, hown, hts⟩ hz hw hA (mX6_readDigit l D cA cR a0 v0 o3 hso3) gX6_readNumber_X6_readDigit rfl rfl rfl (by decide +kernel) rfl ⟨Nat.le_of_ble_eq_true rfl, Nat.le_of_ble_eq_true rfl⟩ rfl rfl hl.1 rfl (Nat.le_of_ble_eq_true rfl) dX6_readNumber_21 ⟨Nat.le_of_ble_eq_true rfl, Nat.le_of_ble_eq_true rfl⟩ [0] [] [0] rfl rfl rfl rfl rfl rfl (fun H locs hw => ?_)
    have hw : ww A s.heap D [[(a0.1, .inr (6, [.ref a0.2.1.1, .ref a0.2.2.1, .int o3.2.2.2.1, .int o3.2.2.2.2]))], w0 cA a0.2.1 o3.2.1, w5 cA a0.2.2 o3.2.2.1] H locs := hw
    refine lv_istore (lv' := [(4, .int o3.1), (3, .int v0.2.2.1), (0, .ref a0.1), (1, .int p1), (2, .int p2)]) hx hb dX6_readNumber_24 hl (by decide) rfl (fun ls hl => ?_)
    refine lv_aload_n hx hb dX6_readNumber_26 rfl (lv_at hl 2 rfl) ?_
    refine lv_aload_n hx hb dX6_readNumber_27 rfl (lv_at hl 2 rfl) ?_
    refine k_get (ci := 6) (v := .int o3.2.2.2.1) (C := RX6) (T := TX6) (N := 4) hx hb hts hown hz hw (by decide +kernel) 0 rfl rfl 2 (by decide) (hts (.fieldLink RX6 27 "OccupancyMonitor$PlanParser" "position" "I") (by decide +kernel)) (fun _ h9 => h9) rfl dX6_readNumber_28 ?_
    have hw : ww A s.heap D [w6 cA a0 o3.2] H locs := hw
    obtain ⟨o4, hso4, hsp⟩ := bnd_of hsp
    refine k_callV (ci := 6) (C := RX6) (T := TX6) (N := 4) (nA := 1) (As := [.int o3.2.2.2.1]) (cs := [w6 cA a0 o3.2]) (rs := []) (cs1 := [w6 cA a0 o3.2]) (bs1 := [w6 cA a0 o3.2]) (rest := []) (st1 := [.int o4]) ⟨hx, hb, hml, hown, hts⟩ hz hw hA (mX6_isDigit l D cA cR a0 o3.2 o3.2.2.2.1 o4 hso4) gX6_readNumber_X6_isDigit rfl rfl rfl (by decide +kernel) rfl ⟨Nat.le_of_ble_eq_true rfl, Nat.le_of_ble_eq_true rfl⟩ rfl rfl hl.1 rfl (Nat.le_of_ble_eq_true rfl) dX6_readNumber_31 ⟨Nat.le_of_ble_eq_true rfl, Nat.le_of_ble_eq_true rfl⟩ [0] [] [0] rfl rfl rfl rfl rfl rfl (fun H locs hw => ?_)
    have hw : ww A s.heap D [[(a0.1, .inr (6, [.ref a0.2.1.1, .ref a0.2.2.1, .int o3.2.2.2.1, .int o3.2.2.2.2]))], w0 cA a0.2.1 o3.2.1, w5 cA a0.2.2 o3.2.2.1] H locs := hw
    obtain ⟨j7, hsj7, hkj7⟩ := bnd_of hsp
    have Jj7 : ∀ (H : Heap) (locs : List Loc) (ls : Array Slot), ww A s.heap D [[(a0.1, .inr (6, [.ref a0.2.1.1, .ref a0.2.2.1, .int j7.2.2.2.1, .int j7.2.2.2.2]))], w0 cA a0.2.1 j7.2.1, w5 cA a0.2.2 j7.2.2.1] H locs → lv_has ls 5 [(0, .ref a0.1), (1, .int p1), (2, .int p2), (3, .int v0.2.2.1), (4, .int j7.1)] → W p l e rX6_readNumber s m args below meth c H locs 0 0 Q (F0 m 49 ls []) := by
      intro H locs ls hw hl
      have hsp := hkj7
      refine lv_aload_n hx hb dX6_readNumber_49 rfl (lv_at hl 0 rfl) ?_
      refine lv_aload_n hx hb dX6_readNumber_50 rfl (lv_at hl 0 rfl) ?_
      refine k_get (ci := 6) (v := .int j7.2.2.2.1) (C := RX6) (T := TX6) (N := 4) hx hb hts hown hz hw (by decide +kernel) 0 rfl rfl 2 (by decide) (hts (.fieldLink RX6 27 "OccupancyMonitor$PlanParser" "position" "I") (by decide +kernel)) (fun _ h9 => h9) rfl dX6_readNumber_51 ?_
      have hw : ww A s.heap D [w6 cA a0 j7.2] H locs := hw
      obtain ⟨o8, hso8, hsp⟩ := bnd_of hsp
      refine k_callV (ci := 6) (C := RX6) (T := TX6) (N := 4) (nA := 1) (As := [.int j7.2.2.2.1]) (cs := [w6 cA a0 j7.2]) (rs := []) (cs1 := [w6 cA a0 j7.2]) (bs1 := [w6 cA a0 j7.2]) (rest := []) (st1 := [.int o8]) ⟨hx, hb, hml, hown, hts⟩ hz hw hA (mX6_isDigit l D cA cR a0 j7.2 j7.2.2.2.1 o8 hso8) gX6_readNumber_X6_isDigit rfl rfl rfl (by decide +kernel) rfl ⟨Nat.le_of_ble_eq_true rfl, Nat.le_of_ble_eq_true rfl⟩ rfl rfl hl.1 rfl (Nat.le_of_ble_eq_true rfl) dX6_readNumber_54 ⟨Nat.le_of_ble_eq_true rfl, Nat.le_of_ble_eq_true rfl⟩ [0] [] [0] rfl rfl rfl rfl rfl rfl (fun H locs hw => ?_)
      have hw : ww A s.heap D [[(a0.1, .inr (6, [.ref a0.2.1.1, .ref a0.2.2.1, .int j7.2.2.2.1, .int j7.2.2.2.2]))], w0 cA a0.2.1 j7.2.1, w5 cA a0.2.2 j7.2.2.1] H locs := hw
      obtain ⟨j11, hsj11, hkj11⟩ := bnd_of hsp
      have Jj11 : ∀ (H : Heap) (locs : List Loc) (ls : Array Slot), ww A s.heap D [[(a0.1, .inr (6, [.ref a0.2.1.1, .ref a0.2.2.1, .int j11.2.2.1, .int j11.2.2.2]))], w0 cA a0.2.1 j11.1, w5 cA a0.2.2 j11.2.1] H locs → lv_has ls 5 [(0, .ref a0.1), (1, .int p1), (2, .int p2), (3, .int v0.2.2.1), (4, .int j7.1)] → W p l e rX6_readNumber s m args below meth c H locs 0 0 Q (F0 m 68 ls []) := by
        intro H locs ls hw hl
        have hsp := hkj11
        refine lv_iload hx hb dX6_readNumber_68 (lv_at hl 4 rfl) ?_
        refine lv_iload_n hx hb dX6_readNumber_70 rfl (lv_at hl 1 rfl) ?_
        refine lv_icmp_lt (tgt := 80) hx hb dX6_readNumber_71 (by decide) (fun c12 => ?_) (fun c12 => ?_)
        · have hsp := ift c12 hsp
          refine lv_aload_n hx hb dX6_readNumber_80 rfl (lv_at hl 0 rfl) ?_
          refine lv_iload_n hx hb dX6_readNumber_81 rfl (lv_at hl 3 rfl) ?_
          have hw : ww A s.heap D [w6 cA a0 j11] H locs := hw
          obtain ⟨o13, hso13, hsp⟩ := bnd_of hsp
          refine k_callV (ci := 6) (C := RX6) (T := TX6) (N := 4) (nA := 1) (As := [.int v0.2.2.1]) (cs := [w6 cA a0 j11]) (rs := []) (cs1 := [w6 cA a0 o13]) (bs1 := [w6 cA a0 o13]) (rest := []) (st1 := []) ⟨hx, hb, hml, hown, hts⟩ hz hw hA (mX6_fail l D cA cR a0 j11 v0.2.2.1 o13 hso13) gX6_readNumber_X6_fail rfl rfl rfl (by decide +kernel) rfl ⟨Nat.le_of_ble_eq_true rfl, Nat.le_of_ble_eq_true rfl⟩ rfl rfl hl.1 rfl (Nat.le_of_ble_eq_true rfl) dX6_readNumber_82 ⟨Nat.le_of_ble_eq_true rfl, Nat.le_of_ble_eq_true rfl⟩ [0] [] [0] rfl rfl rfl rfl rfl rfl (fun H locs hw => ?_)
          have hw : ww A s.heap D [[(a0.1, .inr (6, [.ref a0.2.1.1, .ref a0.2.2.1, .int o13.2.2.1, .int o13.2.2.2]))], w0 cA a0.2.1 o13.1, w5 cA a0.2.2 o13.2.1] H locs := hw
          refine lv_iload hx hb dX6_readNumber_85 (lv_at hl 4 rfl) ?_
          have hsp := Option.some.inj hsp
          subst hsp
          have hw : ww A s.heap D [w6 cA a0 o13] H locs := hw
          subst hQ
          exact k_iret hx hb hr hlk hw dX6_readNumber_87
        · have hsp := iff_ c12 hsp
          refine lv_iload hx hb dX6_readNumber_74 (lv_at hl 4 rfl) ?_
          refine lv_iload_n hx hb dX6_readNumber_76 rfl (lv_at hl 2 rfl) ?_
          refine lv_icmp_le (tgt := 85) hx hb dX6_readNumber_77 (by decide) (fun c14 => ?_) (fun c14 => ?_)
          · have hsp := ift c14 hsp
            refine lv_iload hx hb dX6_readNumber_85 (lv_at hl 4 rfl) ?_
            have hsp := Option.some.inj hsp
            subst hsp
            have hw : ww A s.heap D [w6 cA a0 j11] H locs := hw
            subst hQ
            exact k_iret hx hb hr hlk hw dX6_readNumber_87
          · have hsp := iff_ c14 hsp
            refine lv_aload_n hx hb dX6_readNumber_80 rfl (lv_at hl 0 rfl) ?_
            refine lv_iload_n hx hb dX6_readNumber_81 rfl (lv_at hl 3 rfl) ?_
            have hw : ww A s.heap D [w6 cA a0 j11] H locs := hw
            obtain ⟨o15, hso15, hsp⟩ := bnd_of hsp
            refine k_callV (ci := 6) (C := RX6) (T := TX6) (N := 4) (nA := 1) (As := [.int v0.2.2.1]) (cs := [w6 cA a0 j11]) (rs := []) (cs1 := [w6 cA a0 o15]) (bs1 := [w6 cA a0 o15]) (rest := []) (st1 := []) ⟨hx, hb, hml, hown, hts⟩ hz hw hA (mX6_fail l D cA cR a0 j11 v0.2.2.1 o15 hso15) gX6_readNumber_X6_fail rfl rfl rfl (by decide +kernel) rfl ⟨Nat.le_of_ble_eq_true rfl, Nat.le_of_ble_eq_true rfl⟩ rfl rfl hl.1 rfl (Nat.le_of_ble_eq_true rfl) dX6_readNumber_82 ⟨Nat.le_of_ble_eq_true rfl, Nat.le_of_ble_eq_true rfl⟩ [0] [] [0] rfl rfl rfl rfl rfl rfl (fun H locs hw => ?_)
            have hw : ww A s.heap D [[(a0.1, .inr (6, [.ref a0.2.1.1, .ref a0.2.2.1, .int o15.2.2.1, .int o15.2.2.2]))], w0 cA a0.2.1 o15.1, w5 cA a0.2.2 o15.2.1] H locs := hw
            refine lv_iload hx hb dX6_readNumber_85 (lv_at hl 4 rfl) ?_
            have hsp := Option.some.inj hsp
            subst hsp
            have hw : ww A s.heap D [w6 cA a0 o15] H locs := hw
            subst hQ
            exact k_iret hx hb hr hlk hw dX6_readNumber_87
      have hsp := hsj11
      refine lv_if_eq (tgt := 68) hx hb dX6_readNumber_57 (by decide) (fun c16 => ?_) (fun c16 => ?_)
      · have hsp := ift c16 hsp
        have hsp := Option.some.inj hsp
        subst hsp
        exact Jj11 _ _ _ hw (lv_sub hl [0, 1, 2, 3, 4] rfl)
      · have hsp := iff_ c16 hsp
        refine lv_aload_n hx hb dX6_readNumber_60 rfl (lv_at hl 0 rfl) ?_
        refine lv_aload_n hx hb dX6_readNumber_61 rfl (lv_at hl 0 rfl) ?_
        refine k_get (ci := 6) (v := .int j7.2.2.2.1) (C := RX6) (T := TX6) (N := 4) hx hb hts hown hz hw (by decide +kernel) 0 rfl rfl 2 (by decide) (hts (.fieldLink RX6 27 "OccupancyMonitor$PlanParser" "position" "I") (by decide +kernel)) (fun _ h9 => h9) rfl dX6_readNumber_62 ?_
        have hw : ww A s.heap D [w6 cA a0 j7.2] H locs := hw
        obtain ⟨o17, hso17, hsp⟩ := bnd_of hsp
        refine k_callV (ci := 6) (C := RX6) (T := TX6) (N := 4) (nA := 1) (As := [.int j7.2.2.2.1]) (cs := [w6 cA a0 j7.2]) (rs := []) (cs1 := [w6 cA a0 o17]) (bs1 := [w6 cA a0 o17]) (rest := []) (st1 := []) ⟨hx, hb, hml, hown, hts⟩ hz hw hA (mX6_fail l D cA cR a0 j7.2 j7.2.2.2.1 o17 hso17) gX6_readNumber_X6_fail rfl rfl rfl (by decide +kernel) rfl ⟨Nat.le_of_ble_eq_true rfl, Nat.le_of_ble_eq_true rfl⟩ rfl rfl hl.1 rfl (Nat.le_of_ble_eq_true rfl) dX6_readNumber_65 ⟨Nat.le_of_ble_eq_true rfl, Nat.le_of_ble_eq_true rfl⟩ [0] [] [0] rfl rfl rfl rfl rfl rfl (fun H locs hw => ?_)
        have hw : ww A s.heap D [[(a0.1, .inr (6, [.ref a0.2.1.1, .ref a0.2.2.1, .int o17.2.2.1, .int o17.2.2.2]))], w0 cA a0.2.1 o17.1, w5 cA a0.2.2 o17.2.1] H locs := hw
        have hsp := Option.some.inj hsp
        subst hsp
        exact Jj11 _ _ _ hw (lv_sub hl [0, 1, 2, 3, 4] rfl)
    have hsp := hsj7
    refine lv_if_eq (tgt := 49) hx hb dX6_readNumber_34 (by decide) (fun c18 => ?_) (fun c18 => ?_)
    · have hsp := ift c18 hsp
      have hsp := Option.some.inj hsp
      subst hsp
      exact Jj7 _ _ _ hw (lv_sub hl [2, 3, 4, 1, 0] rfl)
    · have hsp := iff_ c18 hsp
      refine lv_bipush (v := 10) hx hb dX6_readNumber_37 (by decide) ?_
      refine lv_iload hx hb dX6_readNumber_39 (lv_at hl 0 rfl) ?_
      refine lv_imul hx hb dX6_readNumber_41 ?_
      refine lv_aload_n hx hb dX6_readNumber_42 rfl (lv_at hl 2 rfl) ?_
      have hw : ww A s.heap D [w6 cA a0 o3.2] H locs := hw
      obtain ⟨o19, hso19, hsp⟩ := bnd_of hsp
      refine k_callV (ci := 6) (C := RX6) (T := TX6) (N := 4) (nA := 0) (As := []) (cs := [w6 cA a0 o3.2]) (rs := []) (cs1 := [w6 cA a0 o19.2]) (bs1 := [w6 cA a0 o19.2]) (rest := [.int ((10 : Int32) * o3.1)]) (st1 := [.int o19.1, .int ((10 : Int32) * o3.1)]) ⟨hx, hb, hml, hown, hts⟩ hz hw hA (mX6_readDigit l D cA cR a0 o3.2 o19 hso19) gX6_readNumber_X6_readDigit rfl rfl rfl (by decide +kernel) rfl ⟨Nat.le_of_ble_eq_true rfl, Nat.le_of_ble_eq_true rfl⟩ rfl rfl hl.1 rfl (Nat.le_of_ble_eq_true rfl) dX6_readNumber_43 ⟨Nat.le_of_ble_eq_true rfl, Nat.le_of_ble_eq_true rfl⟩ [0] [] [0] rfl rfl rfl rfl rfl rfl (fun H locs hw => ?_)
      have hw : ww A s.heap D [[(a0.1, .inr (6, [.ref a0.2.1.1, .ref a0.2.2.1, .int o19.2.2.2.1, .int o19.2.2.2.2]))], w0 cA a0.2.1 o19.2.1, w5 cA a0.2.2 o19.2.2.1] H locs := hw
      refine lv_iadd hx hb dX6_readNumber_46 ?_
      refine lv_istore (lv' := [(4, .int (((10 : Int32) * o3.1) + o19.1)), (3, .int v0.2.2.1), (0, .ref a0.1), (1, .int p1), (2, .int p2)]) hx hb dX6_readNumber_47 hl (by decide) rfl (fun ls hl => ?_)
      have hsp := Option.some.inj hsp
      subst hsp
      exact Jj7 _ _ _ hw (lv_sub hl [2, 3, 4, 1, 0] rfl)
  · have hsp := ift c2 hsp
    refine lv_aload_n hx hb dX6_readNumber_13 rfl (lv_at hl 1 rfl) ?_
    refine lv_iload_n hx hb dX6_readNumber_14 rfl (lv_at hl 0 rfl) ?_
    have hw : ww A s.heap D [w6 cA a0 v0] H locs := hw
    obtain ⟨o20, hso20, hsp⟩ := bnd_of hsp
    refine k_callV (ci := 6) (C := RX6) (T := TX6) (N := 4) (nA := 1) (As := [.int v0.2.2.1]) (cs := [w6 cA a0 v0]) (rs := []) (cs1 := [w6 cA a0 o20]) (bs1 := [w6 cA a0 o20]) (rest := []) (st1 := []) ⟨hx, hb, hml, hown, hts⟩ hz hw hA (mX6_fail l D cA cR a0 v0 v0.2.2.1 o20 hso20) gX6_readNumber_X6_fail rfl rfl rfl (by decide +kernel) rfl ⟨Nat.le_of_ble_eq_true rfl, Nat.le_of_ble_eq_true rfl⟩ rfl rfl hl.1 rfl (Nat.le_of_ble_eq_true rfl) dX6_readNumber_15 ⟨Nat.le_of_ble_eq_true rfl, Nat.le_of_ble_eq_true rfl⟩ [0] [] [0] rfl rfl rfl rfl rfl rfl (fun H locs hw => ?_)
    have hw : ww A s.heap D [[(a0.1, .inr (6, [.ref a0.2.1.1, .ref a0.2.2.1, .int o20.2.2.1, .int o20.2.2.2]))], w0 cA a0.2.1 o20.1, w5 cA a0.2.2 o20.2.1] H locs := hw
    refine lv_iconst (v := -1) hx hb dX6_readNumber_18 (by decide) ?_
    have hsp := Option.some.inj hsp
    subst hsp
    have hw : ww A s.heap D [w6 cA a0 o20] H locs := hw
    subst hQ
    exact k_iret hx hb hr hlk hw dX6_readNumber_19
noncomputable def sX6_readSign (v0 : V6) (p1 : Int32) : Option (V6) := ((sX0_byteAt v0.1 v0.2.2.1).bind (fun o1 => (if o1 = p1 then (some (v0.1, v0.2.1, (v0.2.2.1 + (1 : Int32)), v0.2.2.2)) else ((sX6_fail v0 v0.2.2.1).bind (fun o3 => (some o3))))))
abbrev rX6_readSign : Room := { frames := 2, cells := 0, slots := 0, locals := 42 }
set_option maxHeartbeats 4000000 in
set_option maxRecDepth 100000 in
theorem mX6_readSign (l : Launch) (D : va_G) (cA cR : ClassId) (a0 : A6) (v0 : V6) (p1 : Int32) (o : V6) (hsp : sX6_readSign v0 p1 = some o) : MI l yX6_readSign wsX6_readSign rX6_readSign D cA cR [.ref a0.1, .int p1] [w6 cA a0 v0] none [w6 cA a0 o] 0 0 := by
  have hsp : ((sX0_byteAt v0.1 v0.2.2.1).bind (fun o1 => (if o1 = p1 then (some (v0.1, v0.2.1, (v0.2.2.1 + (1 : Int32)), v0.2.2.2)) else ((sX6_fail v0 v0.2.2.1).bind (fun o3 => (some o3)))))) = some o := hsp
  refine MI.ofW (cc := cX6_readSign) (maxL := 2) (ret := none) (by decide) rfl (Nat.le_of_ble_eq_true rfl) ?_
  intro p e s m args below meth c A ls Q H locs hx hb hr hlk hml hown hnm hts hz hA hQ hw hl
  have hl : lv_has ls 2 [(0, .ref a0.1), (1, .int p1)] := hl
  have hw : ww A s.heap D [[(a0.1, .inr (6, [.ref a0.2.1.1, .ref a0.2.2.1, .int v0.2.2.1, .int v0.2.2.2]))], w0 cA a0.2.1 v0.1, w5 cA a0.2.2 v0.2.1] H locs := hw
  refine lv_aload_n hx hb dX6_readSign_0 rfl (lv_at hl 0 rfl) ?_
  refine k_get (ci := 6) (v := .ref a0.2.1.1) (C := RX6) (T := TX6) (N := 4) hx hb hts hown hz hw (by decide +kernel) 0 rfl rfl 0 (by decide) (hts (.fieldLink RX6 14 "OccupancyMonitor$PlanParser" "text" "LOccupancyMonitor$Bytes;") (by decide +kernel)) (fun _ h9 => h9) rfl dX6_readSign_1 ?_
  refine lv_aload_n hx hb dX6_readSign_4 rfl (lv_at hl 0 rfl) ?_
  refine k_get (ci := 6) (v := .int v0.2.2.1) (C := RX6) (T := TX6) (N := 4) hx hb hts hown hz hw (by decide +kernel) 0 rfl rfl 2 (by decide) (hts (.fieldLink RX6 27 "OccupancyMonitor$PlanParser" "position" "I") (by decide +kernel)) (fun _ h9 => h9) rfl dX6_readSign_5 ?_
  obtain ⟨o1, hso1, hsp⟩ := bnd_of hsp
  refine k_callV (ci := 0) (C := RX0) (T := TX0) (N := 2) (nA := 1) (As := [.int v0.2.2.1]) (cs := [w0 cA a0.2.1 v0.1]) (rs := [[(a0.1, .inr (6, [.ref a0.2.1.1, .ref a0.2.2.1, .int v0.2.2.1, .int v0.2.2.2]))], w5 cA a0.2.2 v0.2.1]) (cs1 := [w0 cA a0.2.1 v0.1]) (bs1 := [[(a0.1, .inr (6, [.ref a0.2.1.1, .ref a0.2.2.1, .int v0.2.2.1, .int v0.2.2.2]))], w0 cA a0.2.1 v0.1, w5 cA a0.2.2 v0.2.1]) (rest := []) (st1 := [.int o1]) ⟨hx, hb, hml, hown, hts⟩ hz hw hA (mX0_byteAt l D cA cR a0.2.1 v0.1 v0.2.2.1 o1 hso1) gX6_readSign_X0_byteAt rfl rfl rfl (by decide +kernel) rfl ⟨Nat.le_of_ble_eq_true rfl, Nat.le_of_ble_eq_true rfl⟩ rfl rfl hl.1 rfl (Nat.le_of_ble_eq_true rfl) dX6_readSign_8 ⟨Nat.le_of_ble_eq_true rfl, Nat.le_of_ble_eq_true rfl⟩ [1] [0, 2] [0, 2, 1] rfl rfl rfl rfl rfl rfl (fun H locs hw => ?_)
  refine lv_iload_n hx hb dX6_readSign_11 rfl (lv_at hl 1 rfl) ?_
  refine lv_icmp_ne (tgt := 28) hx hb dX6_readSign_12 (by decide) (fun c2 => ?_) (fun c2 => ?_)
  · have hsp := iff_ c2 hsp
    refine lv_aload_n hx hb dX6_readSign_28 rfl (lv_at hl 0 rfl) ?_
    refine lv_aload_n hx hb dX6_readSign_29 rfl (lv_at hl 0 rfl) ?_
    refine k_get (ci := 6) (v := .int v0.2.2.1) (C := RX6) (T := TX6) (N := 4) hx hb hts hown hz hw (by decide +kernel) 0 rfl rfl 2 (by decide) (hts (.fieldLink RX6 27 "OccupancyMonitor$PlanParser" "position" "I") (by decide +kernel)) (fun _ h9 => h9) rfl dX6_readSign_30 ?_
    have hw : ww A s.heap D [w6 cA a0 v0] H locs := hw
    obtain ⟨o3, hso3, hsp⟩ := bnd_of hsp
    refine k_callV (ci := 6) (C := RX6) (T := TX6) (N := 4) (nA := 1) (As := [.int v0.2.2.1]) (cs := [w6 cA a0 v0]) (rs := []) (cs1 := [w6 cA a0 o3]) (bs1 := [w6 cA a0 o3]) (rest := []) (st1 := []) ⟨hx, hb, hml, hown, hts⟩ hz hw hA (mX6_fail l D cA cR a0 v0 v0.2.2.1 o3 hso3) gX6_readSign_X6_fail rfl rfl rfl (by decide +kernel) rfl ⟨Nat.le_of_ble_eq_true rfl, Nat.le_of_ble_eq_true rfl⟩ rfl rfl hl.1 rfl (Nat.le_of_ble_eq_true rfl) dX6_readSign_33 ⟨Nat.le_of_ble_eq_true rfl, Nat.le_of_ble_eq_true rfl⟩ [0] [] [0] rfl rfl rfl rfl rfl rfl (fun H locs hw => ?_)
    have hw : ww A s.heap D [[(a0.1, .inr (6, [.ref a0.2.1.1, .ref a0.2.2.1, .int o3.2.2.1, .int o3.2.2.2]))], w0 cA a0.2.1 o3.1, w5 cA a0.2.2 o3.2.1] H locs := hw
    have hsp := Option.some.inj hsp
    subst hsp
    have hw : ww A s.heap D [w6 cA a0 o3] H locs := hw
    subst hQ
    exact k_vret hx hb hr hlk hw dX6_readSign_36
  · have hsp := ift c2 hsp
    refine lv_aload_n hx hb dX6_readSign_15 rfl (lv_at hl 0 rfl) ?_
    refine lv_dup hx hb dX6_readSign_16 rfl ?_
    refine k_get (ci := 6) (v := .int v0.2.2.1) (C := RX6) (T := TX6) (N := 4) hx hb hts hown hz hw (by decide +kernel) 0 rfl rfl 2 (by decide) (hts (.fieldLink RX6 27 "OccupancyMonitor$PlanParser" "position" "I") (by decide +kernel)) (fun _ h9 => h9) rfl dX6_readSign_17 ?_
    refine lv_iconst (v := 1) hx hb dX6_readSign_20 (by decide) ?_
    refine lv_iadd hx hb dX6_readSign_21 ?_
    refine k_put (ci := 6) (v := .int (v0.2.2.1 + (1 : Int32))) (ty := .int) (C := RX6) (T := TX6) (N := 4) (bs1 := [[(a0.1, .inr (6, [.ref a0.2.1.1, .ref a0.2.2.1, .int (v0.2.2.1 + (1 : Int32)), .int v0.2.2.2]))], w0 cA a0.2.1 v0.1, w5 cA a0.2.2 v0.2.1]) hx hb hts hown hz hw (by decide +kernel) tyX6 tyX6_ok nmX6 0 rfl rfl 2 (by decide) (hts (.fieldLink RX6 27 "OccupancyMonitor$PlanParser" "position" "I") (by decide +kernel)) (fun _ h9 => h9) rfl (by decide +kernel) rfl rfl (Nat.le_of_ble_eq_true rfl) dX6_readSign_22 rfl (fun H locs hw => ?_)
    refine lv_goto (tgt := 36) hx hb dX6_readSign_25 (by decide) ?_
    have hsp := Option.some.inj hsp
    subst hsp
    have hw : ww A s.heap D [w6 cA a0 (v0.1, v0.2.1, (v0.2.2.1 + (1 : Int32)), v0.2.2.2)] H locs := hw
    subst hQ
    exact k_vret hx hb hr hlk hw dX6_readSign_36
noncomputable def sX6_readStep (v0 : V6) : Option (V6) := (if v0.2.1.2.1 < (12 : Int32) then ((sX6_readNumber v0 (0 : Int32) (31 : Int32)).bind (fun o2 => ((sX0_byteAt o2.2.1 o2.2.2.2.1).bind (fun o3 => (((if o3 = (45 : Int32) then ((sX6_readNumber (o2.2.1, o2.2.2.1, (o2.2.2.2.1 + (1 : Int32)), o2.2.2.2.2) o2.1 (31 : Int32)).bind (fun o13 => (some (o13.1, o13.2.1, o13.2.2.1.1, o13.2.2.1.2.1, o13.2.2.1.2.2.1, o13.2.2.1.2.2.2, o13.2.2.2.1, o13.2.2.2.2)))) else (some (o2.1, o2.2.1, o2.2.2.1.1, o2.2.2.1.2.1, o2.2.2.1.2.2.1, o2.2.2.1.2.2.2, o2.2.2.2.1, o2.2.2.2.2))) : Option (Int32 × V0 × V9 × Int32 × Int32 × Int32 × Int32 × Int32)).bind (fun j6 => ((sX6_readSign (j6.2.1, (j6.2.2.1, j6.2.2.2.1, j6.2.2.2.2.1, j6.2.2.2.2.2.1), j6.2.2.2.2.2.2.1, j6.2.2.2.2.2.2.2) (58 : Int32)).bind (fun o7 => ((sX6_readNumber o7 (1 : Int32) (20 : Int32)).bind (fun o8 => ((sX6_readSign o8.2 (59 : Int32)).bind (fun o9 => (if o9.2.2.2 = (-1 : Int32) then ((sX5_add o9.2.1 o2.1 j6.1 o8.1).bind (fun o11 => (some (o9.1, o11, o9.2.2.1, o9.2.2.2)))) else (some o9)))))))))))))) else ((sX6_fail v0 v0.2.2.1).bind (fun o14 => (some o14))))
abbrev rX6_readStep : Room := { frames := 4, cells := 0, slots := 0, locals := 88 }
set_option maxHeartbeats 4000000 in
set_option maxRecDepth 100000 in
theorem mX6_readStep (l : Launch) (D : va_G) (cA cR : ClassId) (a0 : A6) (v0 : V6) (o : V6) (hsp : sX6_readStep v0 = some o) : MI l yX6_readStep wsX6_readStep rX6_readStep D cA cR [.ref a0.1] [w6 cA a0 v0] none [w6 cA a0 o] 0 0 := by
  have hsp : (if v0.2.1.2.1 < (12 : Int32) then ((sX6_readNumber v0 (0 : Int32) (31 : Int32)).bind (fun o2 => ((sX0_byteAt o2.2.1 o2.2.2.2.1).bind (fun o3 => (((if o3 = (45 : Int32) then ((sX6_readNumber (o2.2.1, o2.2.2.1, (o2.2.2.2.1 + (1 : Int32)), o2.2.2.2.2) o2.1 (31 : Int32)).bind (fun o13 => (some (o13.1, o13.2.1, o13.2.2.1.1, o13.2.2.1.2.1, o13.2.2.1.2.2.1, o13.2.2.1.2.2.2, o13.2.2.2.1, o13.2.2.2.2)))) else (some (o2.1, o2.2.1, o2.2.2.1.1, o2.2.2.1.2.1, o2.2.2.1.2.2.1, o2.2.2.1.2.2.2, o2.2.2.2.1, o2.2.2.2.2))) : Option (Int32 × V0 × V9 × Int32 × Int32 × Int32 × Int32 × Int32)).bind (fun j6 => ((sX6_readSign (j6.2.1, (j6.2.2.1, j6.2.2.2.1, j6.2.2.2.2.1, j6.2.2.2.2.2.1), j6.2.2.2.2.2.2.1, j6.2.2.2.2.2.2.2) (58 : Int32)).bind (fun o7 => ((sX6_readNumber o7 (1 : Int32) (20 : Int32)).bind (fun o8 => ((sX6_readSign o8.2 (59 : Int32)).bind (fun o9 => (if o9.2.2.2 = (-1 : Int32) then ((sX5_add o9.2.1 o2.1 j6.1 o8.1).bind (fun o11 => (some (o9.1, o11, o9.2.2.1, o9.2.2.2)))) else (some o9)))))))))))))) else ((sX6_fail v0 v0.2.2.1).bind (fun o14 => (some o14)))) = some o := hsp
  refine MI.ofW (cc := cX6_readStep) (maxL := 4) (ret := none) (by decide) rfl (Nat.le_of_ble_eq_true rfl) ?_
  intro p e s m args below meth c A ls Q H locs hx hb hr hlk hml hown hnm hts hz hA hQ hw hl
  have hl : lv_has ls 4 [(0, .ref a0.1)] := hl
  have hw : ww A s.heap D [[(a0.1, .inr (6, [.ref a0.2.1.1, .ref a0.2.2.1, .int v0.2.2.1, .int v0.2.2.2]))], w0 cA a0.2.1 v0.1, [(a0.2.2.1, .inr (5, [.ref a0.2.2.2.1, .int v0.2.1.2.1, .int v0.2.1.2.2.1, .int v0.2.1.2.2.2]))], w9 cA a0.2.2.2 v0.2.1.1] H locs := hw
  refine lv_aload_n hx hb dX6_readStep_0 rfl (lv_at hl 0 rfl) ?_
  refine k_get (ci := 6) (v := .ref a0.2.2.1) (C := RX6) (T := TX6) (N := 4) hx hb hts hown hz hw (by decide +kernel) 0 rfl rfl 1 (by decide) (hts (.fieldLink RX6 23 "OccupancyMonitor$PlanParser" "draft" "LOccupancyMonitor$Plan;") (by decide +kernel)) (fun _ h9 => h9) rfl dX6_readStep_1 ?_
  refine k_getN (ci := 5) (v := .int v0.2.1.2.1) (C := RX5) (T := TX5) (N := 4) (host := "OccupancyMonitor") hx hb hts hown hz hw (by decide +kernel) 2 rfl rfl 1 (by decide) (by decide +kernel) (fun _ h9 => h9) rfl dX6_readStep_4 ?_
  refine lv_bipush (v := 12) hx hb dX6_readStep_7 (by decide) ?_
  refine lv_icmp_lt (tgt := 21) hx hb dX6_readStep_9 (by decide) (fun c1 => ?_) (fun c1 => ?_)
  · have hsp := ift c1 hsp
    refine lv_aload_n hx hb dX6_readStep_21 rfl (lv_at hl 0 rfl) ?_
    refine lv_iconst (v := 0) hx hb dX6_readStep_22 (by decide) ?_
    refine lv_bipush (v := 31) hx hb dX6_readStep_23 (by decide) ?_
    have hw : ww A s.heap D [w6 cA a0 v0] H locs := hw
    obtain ⟨o2, hso2, hsp⟩ := bnd_of hsp
    refine k_callV (ci := 6) (C := RX6) (T := TX6) (N := 4) (nA := 2) (As := [.int (0 : Int32), .int (31 : Int32)]) (cs := [w6 cA a0 v0]) (rs := []) (cs1 := [w6 cA a0 o2.2]) (bs1 := [w6 cA a0 o2.2]) (rest := []) (st1 := [.int o2.1]) ⟨hx, hb, hml, hown, hts⟩ hz hw hA (mX6_readNumber l D cA cR a0 v0 (0 : Int32) (31 : Int32) o2 hso2) gX6_readStep_X6_readNumber rfl rfl rfl (by decide +kernel) rfl ⟨Nat.le_of_ble_eq_true rfl, Nat.le_of_ble_eq_true rfl⟩ rfl rfl hl.1 rfl (Nat.le_of_ble_eq_true rfl) dX6_readStep_25 ⟨Nat.le_of_ble_eq_true rfl, Nat.le_of_ble_eq_true rfl⟩ [0] [] [0] rfl rfl rfl rfl rfl rfl (fun H locs hw => ?_)
    have hw : ww A s.heap D [[(a0.1, .inr (6, [.ref a0.2.1.1, .ref a0.2.2.1, .int o2.2.2.2.1, .int o2.2.2.2.2]))], w0 cA a0.2.1 o2.2.1, [(a0.2.2.1, .inr (5, [.ref a0.2.2.2.1, .int o2.2.2.1.2.1, .int o2.2.2.1.2.2.1, .int o2.2.2.1.2.2.2]))], w9 cA a0.2.2.2 o2.2.2.1.1] H locs := hw
    refine lv_istore_n (lv' := [(1, .int o2.1), (0, .ref a0.1)]) hx hb dX6_readStep_28 rfl hl (by decide) rfl (fun ls hl => ?_)
    refine lv_iload_n hx hb dX6_readStep_29 rfl (lv_at hl 0 rfl) ?_
    refine lv_istore_n (lv' := [(2, .int o2.1), (1, .int o2.1), (0, .ref a0.1)]) hx hb dX6_readStep_30 rfl hl (by decide) rfl (fun ls hl => ?_)
    refine lv_aload_n hx hb dX6_readStep_31 rfl (lv_at hl 2 rfl) ?_
    refine k_get (ci := 6) (v := .ref a0.2.1.1) (C := RX6) (T := TX6) (N := 4) hx hb hts hown hz hw (by decide +kernel) 0 rfl rfl 0 (by decide) (hts (.fieldLink RX6 14 "OccupancyMonitor$PlanParser" "text" "LOccupancyMonitor$Bytes;") (by decide +kernel)) (fun _ h9 => h9) rfl dX6_readStep_32 ?_
    refine lv_aload_n hx hb dX6_readStep_35 rfl (lv_at hl 2 rfl) ?_
    refine k_get (ci := 6) (v := .int o2.2.2.2.1) (C := RX6) (T := TX6) (N := 4) hx hb hts hown hz hw (by decide +kernel) 0 rfl rfl 2 (by decide) (hts (.fieldLink RX6 27 "OccupancyMonitor$PlanParser" "position" "I") (by decide +kernel)) (fun _ h9 => h9) rfl dX6_readStep_36 ?_
    obtain ⟨o3, hso3, hsp⟩ := bnd_of hsp
    refine k_callV (ci := 0) (C := RX0) (T := TX0) (N := 2) (nA := 1) (As := [.int o2.2.2.2.1]) (cs := [w0 cA a0.2.1 o2.2.1]) (rs := [[(a0.1, .inr (6, [.ref a0.2.1.1, .ref a0.2.2.1, .int o2.2.2.2.1, .int o2.2.2.2.2]))], [(a0.2.2.1, .inr (5, [.ref a0.2.2.2.1, .int o2.2.2.1.2.1, .int o2.2.2.1.2.2.1, .int o2.2.2.1.2.2.2]))], w9 cA a0.2.2.2 o2.2.2.1.1]) (cs1 := [w0 cA a0.2.1 o2.2.1]) (bs1 := [[(a0.1, .inr (6, [.ref a0.2.1.1, .ref a0.2.2.1, .int o2.2.2.2.1, .int o2.2.2.2.2]))], w0 cA a0.2.1 o2.2.1, [(a0.2.2.1, .inr (5, [.ref a0.2.2.2.1, .int o2.2.2.1.2.1, .int o2.2.2.1.2.2.1, .int o2.2.2.1.2.2.2]))], w9 cA a0.2.2.2 o2.2.2.1.1]) (rest := []) (st1 := [.int o3]) ⟨hx, hb, hml, hown, hts⟩ hz hw hA (mX0_byteAt l D cA cR a0.2.1 o2.2.1 o2.2.2.2.1 o3 hso3) gX6_readStep_X0_byteAt rfl rfl rfl (by decide +kernel) rfl ⟨Nat.le_of_ble_eq_true rfl, Nat.le_of_ble_eq_true rfl⟩ rfl rfl hl.1 rfl (Nat.le_of_ble_eq_true rfl) dX6_readStep_39 ⟨Nat.le_of_ble_eq_true rfl, Nat.le_of_ble_eq_true rfl⟩ [1] [0, 2, 3] [0, 3, 1, 2] rfl rfl rfl rfl rfl rfl (fun H locs hw => ?_)
    refine lv_bipush (v := 45) hx hb dX6_readStep_42 (by decide) ?_
    obtain ⟨j6, hsj6, hkj6⟩ := bnd_of hsp
    have Jj6 : ∀ (H : Heap) (locs : List Loc) (ls : Array Slot), ww A s.heap D [[(a0.1, .inr (6, [.ref a0.2.1.1, .ref a0.2.2.1, .int j6.2.2.2.2.2.2.1, .int j6.2.2.2.2.2.2.2]))], w0 cA a0.2.1 j6.2.1, [(a0.2.2.1, .inr (5, [.ref a0.2.2.2.1, .int j6.2.2.2.1, .int j6.2.2.2.2.1, .int j6.2.2.2.2.2.1]))], w9 cA a0.2.2.2 j6.2.2.1] H locs → lv_has ls 4 [(0, .ref a0.1), (1, .int o2.1), (2, .int j6.1)] → W p l e rX6_readStep s m args below meth c H locs 0 0 Q (F0 m 65 ls []) := by
      intro H locs ls hw hl
      have hsp := hkj6
      refine lv_aload_n hx hb dX6_readStep_65 rfl (lv_at hl 0 rfl) ?_
      refine lv_bipush (v := 58) hx hb dX6_readStep_66 (by decide) ?_
      have hw : ww A s.heap D [w6 cA a0 (j6.2.1, (j6.2.2.1, j6.2.2.2.1, j6.2.2.2.2.1, j6.2.2.2.2.2.1), j6.2.2.2.2.2.2.1, j6.2.2.2.2.2.2.2)] H locs := hw
      obtain ⟨o7, hso7, hsp⟩ := bnd_of hsp
      refine k_callV (ci := 6) (C := RX6) (T := TX6) (N := 4) (nA := 1) (As := [.int (58 : Int32)]) (cs := [w6 cA a0 (j6.2.1, (j6.2.2.1, j6.2.2.2.1, j6.2.2.2.2.1, j6.2.2.2.2.2.1), j6.2.2.2.2.2.2.1, j6.2.2.2.2.2.2.2)]) (rs := []) (cs1 := [w6 cA a0 o7]) (bs1 := [w6 cA a0 o7]) (rest := []) (st1 := []) ⟨hx, hb, hml, hown, hts⟩ hz hw hA (mX6_readSign l D cA cR a0 (j6.2.1, (j6.2.2.1, j6.2.2.2.1, j6.2.2.2.2.1, j6.2.2.2.2.2.1), j6.2.2.2.2.2.2.1, j6.2.2.2.2.2.2.2) (58 : Int32) o7 hso7) gX6_readStep_X6_readSign rfl rfl rfl (by decide +kernel) rfl ⟨Nat.le_of_ble_eq_true rfl, Nat.le_of_ble_eq_true rfl⟩ rfl rfl hl.1 rfl (Nat.le_of_ble_eq_true rfl) dX6_readStep_68 ⟨Nat.le_of_ble_eq_true rfl, Nat.le_of_ble_eq_true rfl⟩ [0] [] [0] rfl rfl rfl rfl rfl rfl (fun H locs hw => ?_)
      have hw : ww A s.heap D [[(a0.1, .inr (6, [.ref a0.2.1.1, .ref a0.2.2.1, .int o7.2.2.1, .int o7.2.2.2]))], w0 cA a0.2.1 o7.1, [(a0.2.2.1, .inr (5, [.ref a0.2.2.2.1, .int o7.2.1.2.1, .int o7.2.1.2.2.1, .int o7.2.1.2.2.2]))], w9 cA a0.2.2.2 o7.2.1.1] H locs := hw
      refine lv_aload_n hx hb dX6_readStep_71 rfl (lv_at hl 0 rfl) ?_
      refine lv_iconst (v := 1) hx hb dX6_readStep_72 (by decide) ?_
      refine lv_bipush (v := 20) hx hb dX6_readStep_73 (by decide) ?_
      have hw : ww A s.heap D [w6 cA a0 o7] H locs := hw
      obtain ⟨o8, hso8, hsp⟩ := bnd_of hsp
      refine k_callV (ci := 6) (C := RX6) (T := TX6) (N := 4) (nA := 2) (As := [.int (1 : Int32), .int (20 : Int32)]) (cs := [w6 cA a0 o7]) (rs := []) (cs1 := [w6 cA a0 o8.2]) (bs1 := [w6 cA a0 o8.2]) (rest := []) (st1 := [.int o8.1]) ⟨hx, hb, hml, hown, hts⟩ hz hw hA (mX6_readNumber l D cA cR a0 o7 (1 : Int32) (20 : Int32) o8 hso8) gX6_readStep_X6_readNumber rfl rfl rfl (by decide +kernel) rfl ⟨Nat.le_of_ble_eq_true rfl, Nat.le_of_ble_eq_true rfl⟩ rfl rfl hl.1 rfl (Nat.le_of_ble_eq_true rfl) dX6_readStep_75 ⟨Nat.le_of_ble_eq_true rfl, Nat.le_of_ble_eq_true rfl⟩ [0] [] [0] rfl rfl rfl rfl rfl rfl (fun H locs hw => ?_)
      have hw : ww A s.heap D [[(a0.1, .inr (6, [.ref a0.2.1.1, .ref a0.2.2.1, .int o8.2.2.2.1, .int o8.2.2.2.2]))], w0 cA a0.2.1 o8.2.1, [(a0.2.2.1, .inr (5, [.ref a0.2.2.2.1, .int o8.2.2.1.2.1, .int o8.2.2.1.2.2.1, .int o8.2.2.1.2.2.2]))], w9 cA a0.2.2.2 o8.2.2.1.1] H locs := hw
      refine lv_istore_n (lv' := [(3, .int o8.1), (0, .ref a0.1), (1, .int o2.1), (2, .int j6.1)]) hx hb dX6_readStep_78 rfl hl (by decide) rfl (fun ls hl => ?_)
      refine lv_aload_n hx hb dX6_readStep_79 rfl (lv_at hl 1 rfl) ?_
      refine lv_bipush (v := 59) hx hb dX6_readStep_80 (by decide) ?_
      have hw : ww A s.heap D [w6 cA a0 o8.2] H locs := hw
      obtain ⟨o9, hso9, hsp⟩ := bnd_of hsp
      refine k_callV (ci := 6) (C := RX6) (T := TX6) (N := 4) (nA := 1) (As := [.int (59 : Int32)]) (cs := [w6 cA a0 o8.2]) (rs := []) (cs1 := [w6 cA a0 o9]) (bs1 := [w6 cA a0 o9]) (rest := []) (st1 := []) ⟨hx, hb, hml, hown, hts⟩ hz hw hA (mX6_readSign l D cA cR a0 o8.2 (59 : Int32) o9 hso9) gX6_readStep_X6_readSign rfl rfl rfl (by decide +kernel) rfl ⟨Nat.le_of_ble_eq_true rfl, Nat.le_of_ble_eq_true rfl⟩ rfl rfl hl.1 rfl (Nat.le_of_ble_eq_true rfl) dX6_readStep_82 ⟨Nat.le_of_ble_eq_true rfl, Nat.le_of_ble_eq_true rfl⟩ [0] [] [0] rfl rfl rfl rfl rfl rfl (fun H locs hw => ?_)
      have hw : ww A s.heap D [[(a0.1, .inr (6, [.ref a0.2.1.1, .ref a0.2.2.1, .int o9.2.2.1, .int o9.2.2.2]))], w0 cA a0.2.1 o9.1, [(a0.2.2.1, .inr (5, [.ref a0.2.2.2.1, .int o9.2.1.2.1, .int o9.2.1.2.2.1, .int o9.2.1.2.2.2]))], w9 cA a0.2.2.2 o9.2.1.1] H locs := hw
      refine lv_aload_n hx hb dX6_readStep_85 rfl (lv_at hl 1 rfl) ?_
      refine k_get (ci := 6) (v := .int o9.2.2.2) (C := RX6) (T := TX6) (N := 4) hx hb hts hown hz hw (by decide +kernel) 0 rfl rfl 3 (by decide) (hts (.fieldLink RX6 31 "OccupancyMonitor$PlanParser" "error" "I") (by decide +kernel)) (fun _ h9 => h9) rfl dX6_readStep_86 ?_
      refine lv_iconst (v := -1) hx hb dX6_readStep_89 (by decide) ?_
      refine lv_icmp_ne (tgt := 103) hx hb dX6_readStep_90 (by decide) (fun c10 => ?_) (fun c10 => ?_)
      · have hsp := iff_ c10 hsp
        have hsp := Option.some.inj hsp
        subst hsp
        have hw : ww A s.heap D [w6 cA a0 o9] H locs := hw
        subst hQ
        exact k_vret hx hb hr hlk hw dX6_readStep_103
      · have hsp := ift c10 hsp
        refine lv_aload_n hx hb dX6_readStep_93 rfl (lv_at hl 1 rfl) ?_
        refine k_get (ci := 6) (v := .ref a0.2.2.1) (C := RX6) (T := TX6) (N := 4) hx hb hts hown hz hw (by decide +kernel) 0 rfl rfl 1 (by decide) (hts (.fieldLink RX6 23 "OccupancyMonitor$PlanParser" "draft" "LOccupancyMonitor$Plan;") (by decide +kernel)) (fun _ h9 => h9) rfl dX6_readStep_94 ?_
        refine lv_iload_n hx hb dX6_readStep_97 rfl (lv_at hl 2 rfl) ?_
        refine lv_iload_n hx hb dX6_readStep_98 rfl (lv_at hl 3 rfl) ?_
        refine lv_iload_n hx hb dX6_readStep_99 rfl (lv_at hl 0 rfl) ?_
        have hw : ww A s.heap D [[(a0.1, .inr (6, [.ref a0.2.1.1, .ref a0.2.2.1, .int o9.2.2.1, .int o9.2.2.2]))], w0 cA a0.2.1 o9.1, w5 cA a0.2.2 o9.2.1] H locs := hw
        obtain ⟨o11, hso11, hsp⟩ := bnd_of hsp
        refine k_callV (ci := 5) (C := RX5) (T := TX5) (N := 4) (nA := 3) (As := [.int o2.1, .int j6.1, .int o8.1]) (cs := [w5 cA a0.2.2 o9.2.1]) (rs := [[(a0.1, .inr (6, [.ref a0.2.1.1, .ref a0.2.2.1, .int o9.2.2.1, .int o9.2.2.2]))], w0 cA a0.2.1 o9.1]) (cs1 := [w5 cA a0.2.2 o11]) (bs1 := [[(a0.1, .inr (6, [.ref a0.2.1.1, .ref a0.2.2.1, .int o9.2.2.1, .int o9.2.2.2]))], w0 cA a0.2.1 o9.1, w5 cA a0.2.2 o11]) (rest := []) (st1 := []) ⟨hx, hb, hml, hown, hts⟩ hz hw hA (mX5_add l D cA cR a0.2.2 o9.2.1 o2.1 j6.1 o8.1 o11 hso11) gX6_readStep_X5_add rfl rfl rfl (by decide +kernel) rfl ⟨Nat.le_of_ble_eq_true rfl, Nat.le_of_ble_eq_true rfl⟩ rfl rfl hl.1 rfl (Nat.le_of_ble_eq_true rfl) dX6_readStep_100 ⟨Nat.le_of_ble_eq_true rfl, Nat.le_of_ble_eq_true rfl⟩ [2] [0, 1] [0, 1, 2] rfl rfl rfl rfl rfl rfl (fun H locs hw => ?_)
        have hw : ww A s.heap D [[(a0.1, .inr (6, [.ref a0.2.1.1, .ref a0.2.2.1, .int o9.2.2.1, .int o9.2.2.2]))], w0 cA a0.2.1 o9.1, [(a0.2.2.1, .inr (5, [.ref a0.2.2.2.1, .int o11.2.1, .int o11.2.2.1, .int o11.2.2.2]))], w9 cA a0.2.2.2 o11.1] H locs := hw
        have hsp := Option.some.inj hsp
        subst hsp
        have hw : ww A s.heap D [w6 cA a0 (o9.1, o11, o9.2.2.1, o9.2.2.2)] H locs := hw
        subst hQ
        exact k_vret hx hb hr hlk hw dX6_readStep_103
    have hsp := hsj6
    refine lv_icmp_ne (tgt := 65) hx hb dX6_readStep_44 (by decide) (fun c12 => ?_) (fun c12 => ?_)
    · have hsp := iff_ c12 hsp
      have hsp := Option.some.inj hsp
      subst hsp
      exact Jj6 _ _ _ hw (lv_sub hl [2, 1, 0] rfl)
    · have hsp := ift c12 hsp
      refine lv_aload_n hx hb dX6_readStep_47 rfl (lv_at hl 2 rfl) ?_
      refine lv_dup hx hb dX6_readStep_48 rfl ?_
      refine k_get (ci := 6) (v := .int o2.2.2.2.1) (C := RX6) (T := TX6) (N := 4) hx hb hts hown hz hw (by decide +kernel) 0 rfl rfl 2 (by decide) (hts (.fieldLink RX6 27 "OccupancyMonitor$PlanParser" "position" "I") (by decide +kernel)) (fun _ h9 => h9) rfl dX6_readStep_49 ?_
      refine lv_iconst (v := 1) hx hb dX6_readStep_52 (by decide) ?_
      refine lv_iadd hx hb dX6_readStep_53 ?_
      refine k_put (ci := 6) (v := .int (o2.2.2.2.1 + (1 : Int32))) (ty := .int) (C := RX6) (T := TX6) (N := 4) (bs1 := [[(a0.1, .inr (6, [.ref a0.2.1.1, .ref a0.2.2.1, .int (o2.2.2.2.1 + (1 : Int32)), .int o2.2.2.2.2]))], w0 cA a0.2.1 o2.2.1, [(a0.2.2.1, .inr (5, [.ref a0.2.2.2.1, .int o2.2.2.1.2.1, .int o2.2.2.1.2.2.1, .int o2.2.2.1.2.2.2]))], w9 cA a0.2.2.2 o2.2.2.1.1]) hx hb hts hown hz hw (by decide +kernel) tyX6 tyX6_ok nmX6 0 rfl rfl 2 (by decide) (hts (.fieldLink RX6 27 "OccupancyMonitor$PlanParser" "position" "I") (by decide +kernel)) (fun _ h9 => h9) rfl (by decide +kernel) rfl rfl (Nat.le_of_ble_eq_true rfl) dX6_readStep_54 rfl (fun H locs hw => ?_)
      refine lv_aload_n hx hb dX6_readStep_57 rfl (lv_at hl 2 rfl) ?_
      refine lv_iload_n hx hb dX6_readStep_58 rfl (lv_at hl 1 rfl) ?_
      refine lv_bipush (v := 31) hx hb dX6_readStep_59 (by decide) ?_
      have hw : ww A s.heap D [w6 cA a0 (o2.2.1, o2.2.2.1, (o2.2.2.2.1 + (1 : Int32)), o2.2.2.2.2)] H locs := hw
      obtain ⟨o13, hso13, hsp⟩ := bnd_of hsp
      refine k_callV (ci := 6) (C := RX6) (T := TX6) (N := 4) (nA := 2) (As := [.int o2.1, .int (31 : Int32)]) (cs := [w6 cA a0 (o2.2.1, o2.2.2.1, (o2.2.2.2.1 + (1 : Int32)), o2.2.2.2.2)]) (rs := []) (cs1 := [w6 cA a0 o13.2]) (bs1 := [w6 cA a0 o13.2]) (rest := []) (st1 := [.int o13.1]) ⟨hx, hb, hml, hown, hts⟩ hz hw hA (mX6_readNumber l D cA cR a0 (o2.2.1, o2.2.2.1, (o2.2.2.2.1 + (1 : Int32)), o2.2.2.2.2) o2.1 (31 : Int32) o13 hso13) gX6_readStep_X6_readNumber rfl rfl rfl (by decide +kernel) rfl ⟨Nat.le_of_ble_eq_true rfl, Nat.le_of_ble_eq_true rfl⟩ rfl rfl hl.1 rfl (Nat.le_of_ble_eq_true rfl) dX6_readStep_61 ⟨Nat.le_of_ble_eq_true rfl, Nat.le_of_ble_eq_true rfl⟩ [0] [] [0] rfl rfl rfl rfl rfl rfl (fun H locs hw => ?_)
      have hw : ww A s.heap D [[(a0.1, .inr (6, [.ref a0.2.1.1, .ref a0.2.2.1, .int o13.2.2.2.1, .int o13.2.2.2.2]))], w0 cA a0.2.1 o13.2.1, [(a0.2.2.1, .inr (5, [.ref a0.2.2.2.1, .int o13.2.2.1.2.1, .int o13.2.2.1.2.2.1, .int o13.2.2.1.2.2.2]))], w9 cA a0.2.2.2 o13.2.2.1.1] H locs := hw
      refine lv_istore_n (lv' := [(2, .int o13.1), (1, .int o2.1), (0, .ref a0.1)]) hx hb dX6_readStep_64 rfl hl (by decide) rfl (fun ls hl => ?_)
      have hsp := Option.some.inj hsp
      subst hsp
      exact Jj6 _ _ _ hw (lv_sub hl [2, 1, 0] rfl)
  · have hsp := iff_ c1 hsp
    refine lv_aload_n hx hb dX6_readStep_12 rfl (lv_at hl 0 rfl) ?_
    refine lv_aload_n hx hb dX6_readStep_13 rfl (lv_at hl 0 rfl) ?_
    refine k_get (ci := 6) (v := .int v0.2.2.1) (C := RX6) (T := TX6) (N := 4) hx hb hts hown hz hw (by decide +kernel) 0 rfl rfl 2 (by decide) (hts (.fieldLink RX6 27 "OccupancyMonitor$PlanParser" "position" "I") (by decide +kernel)) (fun _ h9 => h9) rfl dX6_readStep_14 ?_
    have hw : ww A s.heap D [w6 cA a0 v0] H locs := hw
    obtain ⟨o14, hso14, hsp⟩ := bnd_of hsp
    refine k_callV (ci := 6) (C := RX6) (T := TX6) (N := 4) (nA := 1) (As := [.int v0.2.2.1]) (cs := [w6 cA a0 v0]) (rs := []) (cs1 := [w6 cA a0 o14]) (bs1 := [w6 cA a0 o14]) (rest := []) (st1 := []) ⟨hx, hb, hml, hown, hts⟩ hz hw hA (mX6_fail l D cA cR a0 v0 v0.2.2.1 o14 hso14) gX6_readStep_X6_fail rfl rfl rfl (by decide +kernel) rfl ⟨Nat.le_of_ble_eq_true rfl, Nat.le_of_ble_eq_true rfl⟩ rfl rfl hl.1 rfl (Nat.le_of_ble_eq_true rfl) dX6_readStep_17 ⟨Nat.le_of_ble_eq_true rfl, Nat.le_of_ble_eq_true rfl⟩ [0] [] [0] rfl rfl rfl rfl rfl rfl (fun H locs hw => ?_)
    have hw : ww A s.heap D [[(a0.1, .inr (6, [.ref a0.2.1.1, .ref a0.2.2.1, .int o14.2.2.1, .int o14.2.2.2]))], w0 cA a0.2.1 o14.1, [(a0.2.2.1, .inr (5, [.ref a0.2.2.2.1, .int o14.2.1.2.1, .int o14.2.1.2.2.1, .int o14.2.1.2.2.2]))], w9 cA a0.2.2.2 o14.2.1.1] H locs := hw
    have hsp := Option.some.inj hsp
    subst hsp
    have hw : ww A s.heap D [w6 cA a0 o14] H locs := hw
    subst hQ
    exact k_vret hx hb hr hlk hw dX6_readStep_20
noncomputable def qX6_parse_23 (N : Nat) : Nat → Int32 → Nat → (Nat → Int32) → Int32 → V5 → Int32 → Int32 → Option ((Int32 × Nat × (Nat → Int32) × Int32 × V5 × Int32 × Int32) ⊕ (Int32 × Nat × (Nat → Int32) × Int32 × V5 × Int32 × Int32))
  | 0, _, _, _, _, _, _, _ => none
  | n23 + 1, z23_0, z23_1, z23_2, z23_3, z23_4, z23_5, z23_6 => (if (12 : Int32) < z23_0 then (some (.inr (z23_0, z23_1, z23_2, z23_3, z23_4, z23_5, z23_6))) else (if z23_6 = (-1 : Int32) then (if z23_5 < z23_3 then ((sX6_readStep (((z23_1, z23_2), z23_3), z23_4, z23_5, z23_6)).bind (fun o17 => ((sX6_skipSpaces N o17).bind (fun o18 => (qX6_parse_23 N n23 (z23_0 + 1) o18.1.1.1 o18.1.1.2 o18.1.2 o18.2.1 o18.2.2.1 o18.2.2.2))))) else (some (.inl (z23_0, z23_1, z23_2, z23_3, z23_4, z23_5, z23_6)))) else (some (.inr (z23_0, z23_1, z23_2, z23_3, z23_4, z23_5, z23_6)))))
noncomputable def sX6_parse (N : Nat) (v0 : V6) : Option (Int32 × V6) := ((sX5_clear v0.2.1).bind (fun o1 => ((sX6_skipSpaces N (v0.1, o1, (0 : Int32), (-1 : Int32))).bind (fun o2 => ((qX6_parse_23 N N (0 : Int32) o2.1.1.1 o2.1.1.2 o2.1.2 o2.2.1 o2.2.2.1 o2.2.2.2).bind (fun o13 => eli o13 (fun y51 => (some (y51.2.2.2.2.2.2, (((y51.2.1, y51.2.2.1), y51.2.2.2.1), y51.2.2.2.2.1, y51.2.2.2.2.2.1, y51.2.2.2.2.2.2)))) (fun y68 => (some (y68.2.2.2.2.2.2, (((y68.2.1, y68.2.2.1), y68.2.2.2.1), y68.2.2.2.2.1, y68.2.2.2.2.2.1, y68.2.2.2.2.2.2))))))))))
abbrev rX6_parse : Room := { frames := 5, cells := 0, slots := 0, locals := 111 }
set_option maxHeartbeats 4000000 in
set_option maxRecDepth 100000 in
theorem mX6_parse (l : Launch) (D : va_G) (cA cR : ClassId) (N : Nat) (a0 : A6) (v0 : V6) (o : Int32 × V6) (hsp : sX6_parse N v0 = some o) : MI l yX6_parse wsX6_parse rX6_parse D cA cR [.ref a0.1] [w6 cA a0 v0] (some (.int o.1)) [w6 cA a0 o.2] 0 0 := by
  have hsp : ((sX5_clear v0.2.1).bind (fun o1 => ((sX6_skipSpaces N (v0.1, o1, (0 : Int32), (-1 : Int32))).bind (fun o2 => ((qX6_parse_23 N N (0 : Int32) o2.1.1.1 o2.1.1.2 o2.1.2 o2.2.1 o2.2.2.1 o2.2.2.2).bind (fun o13 => eli o13 (fun y51 => (some (y51.2.2.2.2.2.2, (((y51.2.1, y51.2.2.1), y51.2.2.2.1), y51.2.2.2.2.1, y51.2.2.2.2.2.1, y51.2.2.2.2.2.2)))) (fun y68 => (some (y68.2.2.2.2.2.2, (((y68.2.1, y68.2.2.1), y68.2.2.2.1), y68.2.2.2.2.1, y68.2.2.2.2.2.1, y68.2.2.2.2.2.2)))))))))) = some o := hsp
  refine MI.ofW (cc := cX6_parse) (maxL := 2) (ret := (some .int)) (by decide) rfl (Nat.le_of_ble_eq_true rfl) ?_
  intro p e s m args below meth c A ls Q H locs hx hb hr hlk hml hown hnm hts hz hA hQ hw hl
  have hl : lv_has ls 2 [(0, .ref a0.1)] := hl
  have hw : ww A s.heap D [[(a0.1, .inr (6, [.ref a0.2.1.1, .ref a0.2.2.1, .int v0.2.2.1, .int v0.2.2.2]))], [(a0.2.1.1, .inr (0, [.ref a0.2.1.2, .int v0.1.2]))], [(a0.2.1.2, .inl (cA, v0.1.1.1, .inl v0.1.1.2))], w5 cA a0.2.2 v0.2.1] H locs := hw
  refine lv_aload_n hx hb dX6_parse_0 rfl (lv_at hl 0 rfl) ?_
  refine lv_iconst (v := 0) hx hb dX6_parse_1 (by decide) ?_
  refine k_put (ci := 6) (v := .int (0 : Int32)) (ty := .int) (C := RX6) (T := TX6) (N := 4) (bs1 := [[(a0.1, .inr (6, [.ref a0.2.1.1, .ref a0.2.2.1, .int (0 : Int32), .int v0.2.2.2]))], [(a0.2.1.1, .inr (0, [.ref a0.2.1.2, .int v0.1.2]))], [(a0.2.1.2, .inl (cA, v0.1.1.1, .inl v0.1.1.2))], w5 cA a0.2.2 v0.2.1]) hx hb hts hown hz hw (by decide +kernel) tyX6 tyX6_ok nmX6 0 rfl rfl 2 (by decide) (hts (.fieldLink RX6 27 "OccupancyMonitor$PlanParser" "position" "I") (by decide +kernel)) (fun _ h9 => h9) rfl (by decide +kernel) rfl rfl (Nat.le_of_ble_eq_true rfl) dX6_parse_2 rfl (fun H locs hw => ?_)
  refine lv_aload_n hx hb dX6_parse_5 rfl (lv_at hl 0 rfl) ?_
  refine lv_iconst (v := -1) hx hb dX6_parse_6 (by decide) ?_
  refine k_put (ci := 6) (v := .int (-1 : Int32)) (ty := .int) (C := RX6) (T := TX6) (N := 4) (bs1 := [[(a0.1, .inr (6, [.ref a0.2.1.1, .ref a0.2.2.1, .int (0 : Int32), .int (-1 : Int32)]))], [(a0.2.1.1, .inr (0, [.ref a0.2.1.2, .int v0.1.2]))], [(a0.2.1.2, .inl (cA, v0.1.1.1, .inl v0.1.1.2))], w5 cA a0.2.2 v0.2.1]) hx hb hts hown hz hw (by decide +kernel) tyX6 tyX6_ok nmX6 0 rfl rfl 3 (by decide) (hts (.fieldLink RX6 31 "OccupancyMonitor$PlanParser" "error" "I") (by decide +kernel)) (fun _ h9 => h9) rfl (by decide +kernel) rfl rfl (Nat.le_of_ble_eq_true rfl) dX6_parse_7 rfl (fun H locs hw => ?_)
  refine lv_aload_n hx hb dX6_parse_10 rfl (lv_at hl 0 rfl) ?_
  refine k_get (ci := 6) (v := .ref a0.2.2.1) (C := RX6) (T := TX6) (N := 4) hx hb hts hown hz hw (by decide +kernel) 0 rfl rfl 1 (by decide) (hts (.fieldLink RX6 23 "OccupancyMonitor$PlanParser" "draft" "LOccupancyMonitor$Plan;") (by decide +kernel)) (fun _ h9 => h9) rfl dX6_parse_11 ?_
  obtain ⟨o1, hso1, hsp⟩ := bnd_of hsp
  refine k_callV (ci := 5) (C := RX5) (T := TX5) (N := 4) (nA := 0) (As := []) (cs := [w5 cA a0.2.2 v0.2.1]) (rs := [[(a0.1, .inr (6, [.ref a0.2.1.1, .ref a0.2.2.1, .int (0 : Int32), .int (-1 : Int32)]))], [(a0.2.1.1, .inr (0, [.ref a0.2.1.2, .int v0.1.2]))], [(a0.2.1.2, .inl (cA, v0.1.1.1, .inl v0.1.1.2))]]) (cs1 := [w5 cA a0.2.2 o1]) (bs1 := [[(a0.1, .inr (6, [.ref a0.2.1.1, .ref a0.2.2.1, .int (0 : Int32), .int (-1 : Int32)]))], [(a0.2.1.1, .inr (0, [.ref a0.2.1.2, .int v0.1.2]))], [(a0.2.1.2, .inl (cA, v0.1.1.1, .inl v0.1.1.2))], w5 cA a0.2.2 o1]) (rest := []) (st1 := []) ⟨hx, hb, hml, hown, hts⟩ hz hw hA (mX5_clear l D cA cR a0.2.2 v0.2.1 o1 hso1) gX6_parse_X5_clear rfl rfl rfl (by decide +kernel) rfl ⟨Nat.le_of_ble_eq_true rfl, Nat.le_of_ble_eq_true rfl⟩ rfl rfl hl.1 rfl (Nat.le_of_ble_eq_true rfl) dX6_parse_14 ⟨Nat.le_of_ble_eq_true rfl, Nat.le_of_ble_eq_true rfl⟩ [3] [0, 1, 2] [0, 1, 2, 3] rfl rfl rfl rfl rfl rfl (fun H locs hw => ?_)
  refine lv_aload_n hx hb dX6_parse_17 rfl (lv_at hl 0 rfl) ?_
  have hw : ww A s.heap D [w6 cA a0 (v0.1, o1, (0 : Int32), (-1 : Int32))] H locs := hw
  obtain ⟨o2, hso2, hsp⟩ := bnd_of hsp
  refine k_callV (ci := 6) (C := RX6) (T := TX6) (N := 4) (nA := 0) (As := []) (cs := [w6 cA a0 (v0.1, o1, (0 : Int32), (-1 : Int32))]) (rs := []) (cs1 := [w6 cA a0 o2]) (bs1 := [w6 cA a0 o2]) (rest := []) (st1 := []) ⟨hx, hb, hml, hown, hts⟩ hz hw hA (mX6_skipSpaces l D cA cR N a0 (v0.1, o1, (0 : Int32), (-1 : Int32)) o2 hso2) gX6_parse_X6_skipSpaces rfl rfl rfl (by decide +kernel) rfl ⟨Nat.le_of_ble_eq_true rfl, Nat.le_of_ble_eq_true rfl⟩ rfl rfl hl.1 rfl (Nat.le_of_ble_eq_true rfl) dX6_parse_18 ⟨Nat.le_of_ble_eq_true rfl, Nat.le_of_ble_eq_true rfl⟩ [0] [] [0] rfl rfl rfl rfl rfl rfl (fun H locs hw => ?_)
  have hw : ww A s.heap D [[(a0.1, .inr (6, [.ref a0.2.1.1, .ref a0.2.2.1, .int o2.2.2.1, .int o2.2.2.2]))], [(a0.2.1.1, .inr (0, [.ref a0.2.1.2, .int o2.1.2]))], [(a0.2.1.2, .inl (cA, o2.1.1.1, .inl o2.1.1.2))], w5 cA a0.2.2 o2.2.1] H locs := hw
  refine lv_iconst (v := 0) hx hb dX6_parse_21 (by decide) ?_
  refine lv_istore_n (lv' := [(1, .int (0 : Int32)), (0, .ref a0.1)]) hx hb dX6_parse_22 rfl hl (by decide) rfl (fun ls hl => ?_)
  have L23 : ∀ (n23 : Nat) (z23_0 : Int32) (z23_1 : Nat) (z23_2 : (Nat → Int32)) (z23_3 : Int32) (z23_4 : V5) (z23_5 : Int32) (z23_6 : Int32) (o13 : (Int32 × Nat × (Nat → Int32) × Int32 × V5 × Int32 × Int32) ⊕ (Int32 × Nat × (Nat → Int32) × Int32 × V5 × Int32 × Int32)), qX6_parse_23 N n23 z23_0 z23_1 z23_2 z23_3 z23_4 z23_5 z23_6 = some o13 → ∀ (H : Heap) (locs : List Loc) (ls : Array Slot), ww A s.heap D [[(a0.1, .inr (6, [.ref a0.2.1.1, .ref a0.2.2.1, .int z23_5, .int z23_6]))], [(a0.2.1.1, .inr (0, [.ref a0.2.1.2, .int z23_3]))], [(a0.2.1.2, .inl (cA, z23_1, .inl z23_2))], w5 cA a0.2.2 z23_4] H locs → lv_has ls 2 [(0, .ref a0.1), (1, .int z23_0)] → (∀ (y51 : Int32 × Nat × (Nat → Int32) × Int32 × V5 × Int32 × Int32), o13 = (.inl y51) → ∀ (H : Heap) (locs : List Loc) (ls : Array Slot), ww A s.heap D [[(a0.1, .inr (6, [.ref a0.2.1.1, .ref a0.2.2.1, .int y51.2.2.2.2.2.1, .int y51.2.2.2.2.2.2]))], [(a0.2.1.1, .inr (0, [.ref a0.2.1.2, .int y51.2.2.2.1]))], [(a0.2.1.2, .inl (cA, y51.2.1, .inl y51.2.2.1))], w5 cA a0.2.2 y51.2.2.2.2.1] H locs → lv_has ls 2 [(0, .ref a0.1), (1, .int y51.1)] → W p l e rX6_parse s m args below meth c H locs 0 0 Q (F0 m 51 ls [])) → (∀ (y68 : Int32 × Nat × (Nat → Int32) × Int32 × V5 × Int32 × Int32), o13 = (.inr y68) → ∀ (H : Heap) (locs : List Loc) (ls : Array Slot), ww A s.heap D [[(a0.1, .inr (6, [.ref a0.2.1.1, .ref a0.2.2.1, .int y68.2.2.2.2.2.1, .int y68.2.2.2.2.2.2]))], [(a0.2.1.1, .inr (0, [.ref a0.2.1.2, .int y68.2.2.2.1]))], [(a0.2.1.2, .inl (cA, y68.2.1, .inl y68.2.2.1))], w5 cA a0.2.2 y68.2.2.2.2.1] H locs → lv_has ls 2 [(0, .ref a0.1), (1, .int y68.1)] → W p l e rX6_parse s m args below meth c H locs 0 0 Q (F0 m 68 ls [])) → W p l e rX6_parse s m args below meth c H locs 0 0 Q (F0 m 23 ls []) := by
    intro n23
    induction n23 with
    | zero => intro z23_0 z23_1 z23_2 z23_3 z23_4 z23_5 z23_6 o13 hsp; cases hsp
    | succ n23 ih23 =>
      intro z23_0 z23_1 z23_2 z23_3 z23_4 z23_5 z23_6 o13 hsp H locs ls hw hl kx23_51 kx23_68
      have hsp : (if (12 : Int32) < z23_0 then (some (.inr (z23_0, z23_1, z23_2, z23_3, z23_4, z23_5, z23_6))) else (if z23_6 = (-1 : Int32) then (if z23_5 < z23_3 then ((sX6_readStep (((z23_1, z23_2), z23_3), z23_4, z23_5, z23_6)).bind (fun o17 => ((sX6_skipSpaces N o17).bind (fun o18 => (qX6_parse_23 N n23 (z23_0 + 1) o18.1.1.1 o18.1.1.2 o18.1.2 o18.2.1 o18.2.2.1 o18.2.2.2))))) else (some (.inl (z23_0, z23_1, z23_2, z23_3, z23_4, z23_5, z23_6)))) else (some (.inr (z23_0, z23_1, z23_2, z23_3, z23_4, z23_5, z23_6))))) = some o13 := hsp
      refine lv_iload_n hx hb dX6_parse_23 rfl (lv_at hl 1 rfl) ?_
      refine lv_bipush (v := 12) hx hb dX6_parse_24 (by decide) ?_
      refine lv_icmp_gt (tgt := 68) hx hb dX6_parse_26 (by decide) (fun c14 => ?_) (fun c14 => ?_)
      · have hsp := ift c14 hsp
        have hsp := Option.some.inj hsp
        subst hsp
        exact kx23_68 _ rfl _ _ _ hw (lv_sub hl [0, 1] rfl)
      · have hsp := iff_ c14 hsp
        refine lv_aload_n hx hb dX6_parse_29 rfl (lv_at hl 0 rfl) ?_
        refine k_get (ci := 6) (v := .int z23_6) (C := RX6) (T := TX6) (N := 4) hx hb hts hown hz hw (by decide +kernel) 0 rfl rfl 3 (by decide) (hts (.fieldLink RX6 31 "OccupancyMonitor$PlanParser" "error" "I") (by decide +kernel)) (fun _ h9 => h9) rfl dX6_parse_30 ?_
        refine lv_iconst (v := -1) hx hb dX6_parse_33 (by decide) ?_
        refine lv_icmp_ne (tgt := 68) hx hb dX6_parse_34 (by decide) (fun c15 => ?_) (fun c15 => ?_)
        · have hsp := iff_ c15 hsp
          have hsp := Option.some.inj hsp
          subst hsp
          exact kx23_68 _ rfl _ _ _ hw (lv_sub hl [0, 1] rfl)
        · have hsp := ift c15 hsp
          refine lv_aload_n hx hb dX6_parse_37 rfl (lv_at hl 0 rfl) ?_
          refine k_get (ci := 6) (v := .int z23_5) (C := RX6) (T := TX6) (N := 4) hx hb hts hown hz hw (by decide +kernel) 0 rfl rfl 2 (by decide) (hts (.fieldLink RX6 27 "OccupancyMonitor$PlanParser" "position" "I") (by decide +kernel)) (fun _ h9 => h9) rfl dX6_parse_38 ?_
          refine lv_aload_n hx hb dX6_parse_41 rfl (lv_at hl 0 rfl) ?_
          refine k_get (ci := 6) (v := .ref a0.2.1.1) (C := RX6) (T := TX6) (N := 4) hx hb hts hown hz hw (by decide +kernel) 0 rfl rfl 0 (by decide) (hts (.fieldLink RX6 14 "OccupancyMonitor$PlanParser" "text" "LOccupancyMonitor$Bytes;") (by decide +kernel)) (fun _ h9 => h9) rfl dX6_parse_42 ?_
          refine k_getN (ci := 0) (v := .int z23_3) (C := RX0) (T := TX0) (N := 2) (host := "OccupancyMonitor") hx hb hts hown hz hw (by decide +kernel) 1 rfl rfl 1 (by decide) (by decide +kernel) (fun _ h9 => h9) rfl dX6_parse_45 ?_
          refine lv_icmp_lt (tgt := 54) hx hb dX6_parse_48 (by decide) (fun c16 => ?_) (fun c16 => ?_)
          · have hsp := ift c16 hsp
            refine lv_aload_n hx hb dX6_parse_54 rfl (lv_at hl 0 rfl) ?_
            have hw : ww A s.heap D [w6 cA a0 (((z23_1, z23_2), z23_3), z23_4, z23_5, z23_6)] H locs := hw
            obtain ⟨o17, hso17, hsp⟩ := bnd_of hsp
            refine k_callV (ci := 6) (C := RX6) (T := TX6) (N := 4) (nA := 0) (As := []) (cs := [w6 cA a0 (((z23_1, z23_2), z23_3), z23_4, z23_5, z23_6)]) (rs := []) (cs1 := [w6 cA a0 o17]) (bs1 := [w6 cA a0 o17]) (rest := []) (st1 := []) ⟨hx, hb, hml, hown, hts⟩ hz hw hA (mX6_readStep l D cA cR a0 (((z23_1, z23_2), z23_3), z23_4, z23_5, z23_6) o17 hso17) gX6_parse_X6_readStep rfl rfl rfl (by decide +kernel) rfl ⟨Nat.le_of_ble_eq_true rfl, Nat.le_of_ble_eq_true rfl⟩ rfl rfl hl.1 rfl (Nat.le_of_ble_eq_true rfl) dX6_parse_55 ⟨Nat.le_of_ble_eq_true rfl, Nat.le_of_ble_eq_true rfl⟩ [0] [] [0] rfl rfl rfl rfl rfl rfl (fun H locs hw => ?_)
            have hw : ww A s.heap D [[(a0.1, .inr (6, [.ref a0.2.1.1, .ref a0.2.2.1, .int o17.2.2.1, .int o17.2.2.2]))], [(a0.2.1.1, .inr (0, [.ref a0.2.1.2, .int o17.1.2]))], [(a0.2.1.2, .inl (cA, o17.1.1.1, .inl o17.1.1.2))], w5 cA a0.2.2 o17.2.1] H locs := hw
            refine lv_aload_n hx hb dX6_parse_58 rfl (lv_at hl 0 rfl) ?_
            have hw : ww A s.heap D [w6 cA a0 o17] H locs := hw
            obtain ⟨o18, hso18, hsp⟩ := bnd_of hsp
            refine k_callV (ci := 6) (C := RX6) (T := TX6) (N := 4) (nA := 0) (As := []) (cs := [w6 cA a0 o17]) (rs := []) (cs1 := [w6 cA a0 o18]) (bs1 := [w6 cA a0 o18]) (rest := []) (st1 := []) ⟨hx, hb, hml, hown, hts⟩ hz hw hA (mX6_skipSpaces l D cA cR N a0 o17 o18 hso18) gX6_parse_X6_skipSpaces rfl rfl rfl (by decide +kernel) rfl ⟨Nat.le_of_ble_eq_true rfl, Nat.le_of_ble_eq_true rfl⟩ rfl rfl hl.1 rfl (Nat.le_of_ble_eq_true rfl) dX6_parse_59 ⟨Nat.le_of_ble_eq_true rfl, Nat.le_of_ble_eq_true rfl⟩ [0] [] [0] rfl rfl rfl rfl rfl rfl (fun H locs hw => ?_)
            have hw : ww A s.heap D [[(a0.1, .inr (6, [.ref a0.2.1.1, .ref a0.2.2.1, .int o18.2.2.1, .int o18.2.2.2]))], [(a0.2.1.1, .inr (0, [.ref a0.2.1.2, .int o18.1.2]))], [(a0.2.1.2, .inl (cA, o18.1.1.1, .inl o18.1.1.2))], w5 cA a0.2.2 o18.2.1] H locs := hw
            refine lv_iinc (v := (z23_0 + 1)) (lv' := [(1, .int (z23_0 + 1)), (0, .ref a0.1)]) hx hb dX6_parse_62 hl (k := 1) rfl rfl (by decide) rfl (fun ls hl => ?_)
            refine lv_goto (tgt := 23) hx hb dX6_parse_65 (by decide) ?_
            exact ih23 (z23_0 + 1) o18.1.1.1 o18.1.1.2 o18.1.2 o18.2.1 o18.2.2.1 o18.2.2.2 _ hsp _ _ _ hw (lv_sub hl [1, 0] rfl) kx23_51 kx23_68
          · have hsp := iff_ c16 hsp
            have hsp := Option.some.inj hsp
            subst hsp
            exact kx23_51 _ rfl _ _ _ hw (lv_sub hl [0, 1] rfl)
  obtain ⟨o13, hso13, hsp⟩ := bnd_of hsp
  refine L23 N (0 : Int32) o2.1.1.1 o2.1.1.2 o2.1.2 o2.2.1 o2.2.2.1 o2.2.2.2 _ hso13 _ _ _ hw (lv_sub hl [1, 0] rfl) (fun y51 hy51 H locs ls hw hl => ?_) (fun y68 hy68 H locs ls hw hl => ?_)
  · subst hy51
    have hsp := eli_l hsp
    refine lv_goto (tgt := 68) hx hb dX6_parse_51 (by decide) ?_
    refine lv_aload_n hx hb dX6_parse_68 rfl (lv_at hl 0 rfl) ?_
    refine k_get (ci := 6) (v := .int y51.2.2.2.2.2.2) (C := RX6) (T := TX6) (N := 4) hx hb hts hown hz hw (by decide +kernel) 0 rfl rfl 3 (by decide) (hts (.fieldLink RX6 31 "OccupancyMonitor$PlanParser" "error" "I") (by decide +kernel)) (fun _ h9 => h9) rfl dX6_parse_69 ?_
    have hsp := Option.some.inj hsp
    subst hsp
    have hw : ww A s.heap D [w6 cA a0 (((y51.2.1, y51.2.2.1), y51.2.2.2.1), y51.2.2.2.2.1, y51.2.2.2.2.2.1, y51.2.2.2.2.2.2)] H locs := hw
    subst hQ
    exact k_iret hx hb hr hlk hw dX6_parse_72
  · subst hy68
    have hsp := eli_r hsp
    refine lv_aload_n hx hb dX6_parse_68 rfl (lv_at hl 0 rfl) ?_
    refine k_get (ci := 6) (v := .int y68.2.2.2.2.2.2) (C := RX6) (T := TX6) (N := 4) hx hb hts hown hz hw (by decide +kernel) 0 rfl rfl 3 (by decide) (hts (.fieldLink RX6 31 "OccupancyMonitor$PlanParser" "error" "I") (by decide +kernel)) (fun _ h9 => h9) rfl dX6_parse_69 ?_
    have hsp := Option.some.inj hsp
    subst hsp
    have hw : ww A s.heap D [w6 cA a0 (((y68.2.1, y68.2.2.1), y68.2.2.2.1), y68.2.2.2.2.1, y68.2.2.2.2.2.1, y68.2.2.2.2.2.2)] H locs := hw
    subst hQ
    exact k_iret hx hb hr hlk hw dX6_parse_72
