noncomputable def sX11_setHops (N : Nat) (v0 : V11) (p1 : Int32) (p2 : Int32) : Option (Int32 × V11) := ((sX11_in p1.toInt64 (1 : Int64) (1000 : Int64)).bind (fun o1 => (((if o1 = 0 then (some (0 : Int32)) else ((sX11_in p2.toInt64 (0 : Int64) (100 : Int64)).bind (fun o15 => (if o15 = 0 then (some (0 : Int32)) else (some (1 : Int32)))))) : Option (Int32)).bind (fun j5 => ((sX11_goes v0 j5 (1 : Int32)).bind (fun o6 => (if o6.1 = 0 then (some ((0 : Int32), o6.2)) else ((sX11_save N o6.2).bind (fun o8 => (grd (vp_in (3 : Int32) o8.1.1) (grd (vp_in (3 : Int32) o8.1.1) (lt_ (upd o8.1.2 (3 : Int32).toNatClampNeg p1) (fun f11 => (grd (vp_in (4 : Int32) o8.1.1) (lt_ (upd f11 (4 : Int32).toNatClampNeg p2) (fun f13 => (some ((o8.1.2 (3 : Int32).toNatClampNeg), ((o8.1.1, f13), o8.2.1, o8.2.2.1, o8.2.2.2.1, o8.2.2.2.2.1, o8.2.2.2.2.2.1, o8.2.2.2.2.2.2.1, o8.2.2.2.2.2.2.2.1, o8.2.2.2.2.2.2.2.2.1, o8.2.2.2.2.2.2.2.2.2.1, o8.2.2.2.2.2.2.2.2.2.2.1, o8.2.2.2.2.2.2.2.2.2.2.2.1, o8.2.2.2.2.2.2.2.2.2.2.2.2.1, o8.2.2.2.2.2.2.2.2.2.2.2.2.2)))))))))))))))))))
abbrev rX11_setHops : Room := { frames := 1, cells := 0, slots := 0, locals := 25 }
set_option maxHeartbeats 4000000 in
set_option maxRecDepth 100000 in
theorem mX11_setHops (l : Launch) (D : va_G) (cA cR : ClassId) (N : Nat) (a0 : A11) (v0 : V11) (p1 : Int32) (p2 : Int32) (o : Int32 × V11) (hsp : sX11_setHops N v0 p1 p2 = some o) : MI l yX11_setHops wsX11_setHops rX11_setHops D cA cR [.ref a0.1, .int p1, .int p2] [w11 cA a0 v0] (some (.int o.1)) [w11 cA a0 o.2] 0 0 := by
  have hsp : ((sX11_in p1.toInt64 (1 : Int64) (1000 : Int64)).bind (fun o1 => (((if o1 = 0 then (some (0 : Int32)) else ((sX11_in p2.toInt64 (0 : Int64) (100 : Int64)).bind (fun o15 => (if o15 = 0 then (some (0 : Int32)) else (some (1 : Int32)))))) : Option (Int32)).bind (fun j5 => ((sX11_goes v0 j5 (1 : Int32)).bind (fun o6 => (if o6.1 = 0 then (some ((0 : Int32), o6.2)) else ((sX11_save N o6.2).bind (fun o8 => (grd (vp_in (3 : Int32) o8.1.1) (grd (vp_in (3 : Int32) o8.1.1) (lt_ (upd o8.1.2 (3 : Int32).toNatClampNeg p1) (fun f11 => (grd (vp_in (4 : Int32) o8.1.1) (lt_ (upd f11 (4 : Int32).toNatClampNeg p2) (fun f13 => (some ((o8.1.2 (3 : Int32).toNatClampNeg), ((o8.1.1, f13), o8.2.1, o8.2.2.1, o8.2.2.2.1, o8.2.2.2.2.1, o8.2.2.2.2.2.1, o8.2.2.2.2.2.2.1, o8.2.2.2.2.2.2.2.1, o8.2.2.2.2.2.2.2.2.1, o8.2.2.2.2.2.2.2.2.2.1, o8.2.2.2.2.2.2.2.2.2.2.1, o8.2.2.2.2.2.2.2.2.2.2.2.1, o8.2.2.2.2.2.2.2.2.2.2.2.2.1, o8.2.2.2.2.2.2.2.2.2.2.2.2.2))))))))))))))))))) = some o := hsp
  refine MI.ofW (cc := cX11_setHops) (maxL := 4) (ret := (some .int)) (by decide) rfl (Nat.le_of_ble_eq_true rfl) ?_
  intro p e s m args below meth c A ls Q H locs hx hb hr hlk hml hown hnm hts hz hA hQ hw hl
  have hl : lv_has ls 4 [(0, .ref a0.1), (1, .int p1), (2, .int p2)] := hl
  have hw : ww A s.heap D [[(a0.1, .inr (11, [.ref a0.2.1, .ref a0.2.2.1, .int v0.2.2.1, .int v0.2.2.2.1, .ref a0.2.2.2.1, .int v0.2.2.2.2.2.1, .int v0.2.2.2.2.2.2.1, .ref a0.2.2.2.2.1, .int v0.2.2.2.2.2.2.2.2.1, .int v0.2.2.2.2.2.2.2.2.2.1, .int v0.2.2.2.2.2.2.2.2.2.2.1, .int v0.2.2.2.2.2.2.2.2.2.2.2.1, .ref a0.2.2.2.2.2, .int v0.2.2.2.2.2.2.2.2.2.2.2.2.2]))], [(a0.2.1, .inl (cA, v0.1.1, .inl v0.1.2))], [(a0.2.2.1, .inl (cA, v0.2.1.1, .inl v0.2.1.2))], [(a0.2.2.2.1, .inl (cA, v0.2.2.2.2.1.1, .inl v0.2.2.2.2.1.2))], [(a0.2.2.2.2.1, .inl (cA, v0.2.2.2.2.2.2.2.1.1, .inl v0.2.2.2.2.2.2.2.1.2))], [(a0.2.2.2.2.2, .inl (cA, v0.2.2.2.2.2.2.2.2.2.2.2.2.1.1, .inl v0.2.2.2.2.2.2.2.2.2.2.2.2.1.2))]] H locs := hw
  refine lv_aload_n hx hb dX11_setHops_0 rfl (lv_at hl 0 rfl) ?_
  refine lv_iload_n hx hb dX11_setHops_1 rfl (lv_at hl 1 rfl) ?_
  refine lv_i2l hx hb dX11_setHops_2 rfl ?_
  refine lv_lconst (v := 1) hx hb dX11_setHops_3 (by decide) ?_
  refine lv_ldc2 hx hb hown (hts (.constantLong RX11 55 1000) (by decide +kernel)) dX11_setHops_4 ?_
  obtain ⟨o1, hso1, hsp⟩ := bnd_of hsp
  refine k_callS (nA := 3) (As := [.long p1.toInt64, .long (1 : Int64), .long (1000 : Int64)]) (cs := []) (rs := [[(a0.1, .inr (11, [.ref a0.2.1, .ref a0.2.2.1, .int v0.2.2.1, .int v0.2.2.2.1, .ref a0.2.2.2.1, .int v0.2.2.2.2.2.1, .int v0.2.2.2.2.2.2.1, .ref a0.2.2.2.2.1, .int v0.2.2.2.2.2.2.2.2.1, .int v0.2.2.2.2.2.2.2.2.2.1, .int v0.2.2.2.2.2.2.2.2.2.2.1, .int v0.2.2.2.2.2.2.2.2.2.2.2.1, .ref a0.2.2.2.2.2, .int v0.2.2.2.2.2.2.2.2.2.2.2.2.2]))], [(a0.2.1, .inl (cA, v0.1.1, .inl v0.1.2))], [(a0.2.2.1, .inl (cA, v0.2.1.1, .inl v0.2.1.2))], [(a0.2.2.2.1, .inl (cA, v0.2.2.2.2.1.1, .inl v0.2.2.2.2.1.2))], [(a0.2.2.2.2.1, .inl (cA, v0.2.2.2.2.2.2.2.1.1, .inl v0.2.2.2.2.2.2.2.1.2))], [(a0.2.2.2.2.2, .inl (cA, v0.2.2.2.2.2.2.2.2.2.2.2.2.1.1, .inl v0.2.2.2.2.2.2.2.2.2.2.2.2.1.2))]]) (cs1 := []) (bs1 := [[(a0.1, .inr (11, [.ref a0.2.1, .ref a0.2.2.1, .int v0.2.2.1, .int v0.2.2.2.1, .ref a0.2.2.2.1, .int v0.2.2.2.2.2.1, .int v0.2.2.2.2.2.2.1, .ref a0.2.2.2.2.1, .int v0.2.2.2.2.2.2.2.2.1, .int v0.2.2.2.2.2.2.2.2.2.1, .int v0.2.2.2.2.2.2.2.2.2.2.1, .int v0.2.2.2.2.2.2.2.2.2.2.2.1, .ref a0.2.2.2.2.2, .int v0.2.2.2.2.2.2.2.2.2.2.2.2.2]))], [(a0.2.1, .inl (cA, v0.1.1, .inl v0.1.2))], [(a0.2.2.1, .inl (cA, v0.2.1.1, .inl v0.2.1.2))], [(a0.2.2.2.1, .inl (cA, v0.2.2.2.2.1.1, .inl v0.2.2.2.2.1.2))], [(a0.2.2.2.2.1, .inl (cA, v0.2.2.2.2.2.2.2.1.1, .inl v0.2.2.2.2.2.2.2.1.2))], [(a0.2.2.2.2.2, .inl (cA, v0.2.2.2.2.2.2.2.2.2.2.2.2.1.1, .inl v0.2.2.2.2.2.2.2.2.2.2.2.2.1.2))]]) (rest := [.ref a0.1]) (st1 := [.int o1, .ref a0.1]) ⟨hx, hb, hml, hown, hts⟩ hz hw hA (mX11_in l D cA cR p1.toInt64 (1 : Int64) (1000 : Int64) o1 hso1) gX11_setHops_X11_in rfl rfl rfl (by decide +kernel) rfl ⟨Nat.le_of_ble_eq_true rfl, Nat.le_of_ble_eq_true rfl⟩ hl.1 rfl (Nat.le_of_ble_eq_true rfl) dX11_setHops_7 ⟨Nat.le_of_ble_eq_true rfl, Nat.le_of_ble_eq_true rfl⟩ [] [0, 1, 2, 3, 4, 5] [0, 1, 2, 3, 4, 5] rfl rfl rfl rfl rfl rfl (fun H locs hw => ?_)
  obtain ⟨j5, hsj5, hkj5⟩ := bnd_of hsp
  have Jj5 : ∀ (H : Heap) (locs : List Loc) (ls : Array Slot), ww A s.heap D [[(a0.1, .inr (11, [.ref a0.2.1, .ref a0.2.2.1, .int v0.2.2.1, .int v0.2.2.2.1, .ref a0.2.2.2.1, .int v0.2.2.2.2.2.1, .int v0.2.2.2.2.2.2.1, .ref a0.2.2.2.2.1, .int v0.2.2.2.2.2.2.2.2.1, .int v0.2.2.2.2.2.2.2.2.2.1, .int v0.2.2.2.2.2.2.2.2.2.2.1, .int v0.2.2.2.2.2.2.2.2.2.2.2.1, .ref a0.2.2.2.2.2, .int v0.2.2.2.2.2.2.2.2.2.2.2.2.2]))], [(a0.2.1, .inl (cA, v0.1.1, .inl v0.1.2))], [(a0.2.2.1, .inl (cA, v0.2.1.1, .inl v0.2.1.2))], [(a0.2.2.2.1, .inl (cA, v0.2.2.2.2.1.1, .inl v0.2.2.2.2.1.2))], [(a0.2.2.2.2.1, .inl (cA, v0.2.2.2.2.2.2.2.1.1, .inl v0.2.2.2.2.2.2.2.1.2))], [(a0.2.2.2.2.2, .inl (cA, v0.2.2.2.2.2.2.2.2.2.2.2.2.1.1, .inl v0.2.2.2.2.2.2.2.2.2.2.2.2.1.2))]] H locs → lv_has ls 4 [(0, .ref a0.1), (1, .int p1), (2, .int p2)] → W p l e rX11_setHops s m args below meth c H locs 0 0 Q (F0 m 30 ls [.int j5, .ref a0.1]) := by
    intro H locs ls hw hl
    have hsp := hkj5
    refine lv_iconst (v := 1) hx hb dX11_setHops_30 (by decide) ?_
    have hw : ww A s.heap D [w11 cA a0 v0] H locs := hw
    obtain ⟨o6, hso6, hsp⟩ := bnd_of hsp
    refine k_callV (ci := 11) (C := RX11) (T := TX11) (N := 14) (nA := 2) (As := [.int j5, .int (1 : Int32)]) (cs := [w11 cA a0 v0]) (rs := []) (cs1 := [w11 cA a0 o6.2]) (bs1 := [w11 cA a0 o6.2]) (rest := []) (st1 := [.int o6.1]) ⟨hx, hb, hml, hown, hts⟩ hz hw hA (mX11_goes l D cA cR a0 v0 j5 (1 : Int32) o6 hso6) gX11_setHops_X11_goes rfl rfl rfl (by decide +kernel) rfl ⟨Nat.le_of_ble_eq_true rfl, Nat.le_of_ble_eq_true rfl⟩ rfl rfl hl.1 rfl (Nat.le_of_ble_eq_true rfl) dX11_setHops_31 ⟨Nat.le_of_ble_eq_true rfl, Nat.le_of_ble_eq_true rfl⟩ [0] [] [0] rfl rfl rfl rfl rfl rfl (fun H locs hw => ?_)
    have hw : ww A s.heap D [[(a0.1, .inr (11, [.ref a0.2.1, .ref a0.2.2.1, .int o6.2.2.2.1, .int o6.2.2.2.2.1, .ref a0.2.2.2.1, .int o6.2.2.2.2.2.2.1, .int o6.2.2.2.2.2.2.2.1, .ref a0.2.2.2.2.1, .int o6.2.2.2.2.2.2.2.2.2.1, .int o6.2.2.2.2.2.2.2.2.2.2.1, .int o6.2.2.2.2.2.2.2.2.2.2.2.1, .int o6.2.2.2.2.2.2.2.2.2.2.2.2.1, .ref a0.2.2.2.2.2, .int o6.2.2.2.2.2.2.2.2.2.2.2.2.2.2]))], [(a0.2.1, .inl (cA, o6.2.1.1, .inl o6.2.1.2))], [(a0.2.2.1, .inl (cA, o6.2.2.1.1, .inl o6.2.2.1.2))], [(a0.2.2.2.1, .inl (cA, o6.2.2.2.2.2.1.1, .inl o6.2.2.2.2.2.1.2))], [(a0.2.2.2.2.1, .inl (cA, o6.2.2.2.2.2.2.2.2.1.1, .inl o6.2.2.2.2.2.2.2.2.1.2))], [(a0.2.2.2.2.2, .inl (cA, o6.2.2.2.2.2.2.2.2.2.2.2.2.2.1.1, .inl o6.2.2.2.2.2.2.2.2.2.2.2.2.2.1.2))]] H locs := hw
    refine lv_if_ne (tgt := 39) hx hb dX11_setHops_34 (by decide) (fun c7 => ?_) (fun c7 => ?_)
    · have hsp := iff_ c7 hsp
      refine lv_aload_n hx hb dX11_setHops_39 rfl (lv_at hl 0 rfl) ?_
      have hw : ww A s.heap D [w11 cA a0 o6.2] H locs := hw
      obtain ⟨o8, hso8, hsp⟩ := bnd_of hsp
      refine k_callV (ci := 11) (C := RX11) (T := TX11) (N := 14) (nA := 0) (As := []) (cs := [w11 cA a0 o6.2]) (rs := []) (cs1 := [w11 cA a0 o8]) (bs1 := [w11 cA a0 o8]) (rest := []) (st1 := []) ⟨hx, hb, hml, hown, hts⟩ hz hw hA (mX11_save l D cA cR N a0 o6.2 o8 hso8) gX11_setHops_X11_save rfl rfl rfl (by decide +kernel) rfl ⟨Nat.le_of_ble_eq_true rfl, Nat.le_of_ble_eq_true rfl⟩ rfl rfl hl.1 rfl (Nat.le_of_ble_eq_true rfl) dX11_setHops_40 ⟨Nat.le_of_ble_eq_true rfl, Nat.le_of_ble_eq_true rfl⟩ [0] [] [0] rfl rfl rfl rfl rfl rfl (fun H locs hw => ?_)
      have hw : ww A s.heap D [[(a0.1, .inr (11, [.ref a0.2.1, .ref a0.2.2.1, .int o8.2.2.1, .int o8.2.2.2.1, .ref a0.2.2.2.1, .int o8.2.2.2.2.2.1, .int o8.2.2.2.2.2.2.1, .ref a0.2.2.2.2.1, .int o8.2.2.2.2.2.2.2.2.1, .int o8.2.2.2.2.2.2.2.2.2.1, .int o8.2.2.2.2.2.2.2.2.2.2.1, .int o8.2.2.2.2.2.2.2.2.2.2.2.1, .ref a0.2.2.2.2.2, .int o8.2.2.2.2.2.2.2.2.2.2.2.2.2]))], [(a0.2.1, .inl (cA, o8.1.1, .inl o8.1.2))], [(a0.2.2.1, .inl (cA, o8.2.1.1, .inl o8.2.1.2))], [(a0.2.2.2.1, .inl (cA, o8.2.2.2.2.1.1, .inl o8.2.2.2.2.1.2))], [(a0.2.2.2.2.1, .inl (cA, o8.2.2.2.2.2.2.2.1.1, .inl o8.2.2.2.2.2.2.2.1.2))], [(a0.2.2.2.2.2, .inl (cA, o8.2.2.2.2.2.2.2.2.2.2.2.2.1.1, .inl o8.2.2.2.2.2.2.2.2.2.2.2.2.1.2))]] H locs := hw
      refine lv_aload_n hx hb dX11_setHops_43 rfl (lv_at hl 0 rfl) ?_
      refine k_get (ci := 11) (v := .ref a0.2.1) (C := RX11) (T := TX11) (N := 14) hx hb hts hown hz hw (by decide +kernel) 0 rfl rfl 0 (by decide) (hts (.fieldLink RX11 7 "OccupancyMonitorModel" "all" "[I") (by decide +kernel)) (fun _ h9 => h9) rfl dX11_setHops_44 ?_
      refine lv_iconst (v := 3) hx hb dX11_setHops_47 (by decide) ?_
      obtain ⟨g9, hsp⟩ := grd_of hsp
      refine k_iald hx hb hz hw 1 rfl g9 dX11_setHops_48 ?_
      refine lv_istore_n (lv' := [(3, .int (o8.1.2 (3 : Int32).toNatClampNeg)), (0, .ref a0.1), (1, .int p1), (2, .int p2)]) hx hb dX11_setHops_49 rfl hl (by decide) rfl (fun ls hl => ?_)
      refine lv_aload_n hx hb dX11_setHops_50 rfl (lv_at hl 1 rfl) ?_
      refine k_get (ci := 11) (v := .ref a0.2.1) (C := RX11) (T := TX11) (N := 14) hx hb hts hown hz hw (by decide +kernel) 0 rfl rfl 0 (by decide) (hts (.fieldLink RX11 7 "OccupancyMonitorModel" "all" "[I") (by decide +kernel)) (fun _ h9 => h9) rfl dX11_setHops_51 ?_
      refine lv_iconst (v := 3) hx hb dX11_setHops_54 (by decide) ?_
      refine lv_iload_n hx hb dX11_setHops_55 rfl (lv_at hl 2 rfl) ?_
      obtain ⟨g10, hsp⟩ := grd_of hsp
      obtain ⟨f11, ef11⟩ : ∃ u : Nat → Int32, u = (upd o8.1.2 (3 : Int32).toNatClampNeg p1) := ⟨_, rfl⟩
      have hsp := lt_of hsp ef11
      refine k_iast (bs1 := [[(a0.1, .inr (11, [.ref a0.2.1, .ref a0.2.2.1, .int o8.2.2.1, .int o8.2.2.2.1, .ref a0.2.2.2.1, .int o8.2.2.2.2.2.1, .int o8.2.2.2.2.2.2.1, .ref a0.2.2.2.2.1, .int o8.2.2.2.2.2.2.2.2.1, .int o8.2.2.2.2.2.2.2.2.2.1, .int o8.2.2.2.2.2.2.2.2.2.2.1, .int o8.2.2.2.2.2.2.2.2.2.2.2.1, .ref a0.2.2.2.2.2, .int o8.2.2.2.2.2.2.2.2.2.2.2.2.2]))], [(a0.2.1, .inl (cA, o8.1.1, .inl f11))], [(a0.2.2.1, .inl (cA, o8.2.1.1, .inl o8.2.1.2))], [(a0.2.2.2.1, .inl (cA, o8.2.2.2.2.1.1, .inl o8.2.2.2.2.1.2))], [(a0.2.2.2.2.1, .inl (cA, o8.2.2.2.2.2.2.2.1.1, .inl o8.2.2.2.2.2.2.2.1.2))], [(a0.2.2.2.2.2, .inl (cA, o8.2.2.2.2.2.2.2.2.2.2.2.2.1.1, .inl o8.2.2.2.2.2.2.2.2.2.2.2.2.1.2))]]) hx hb hz hw 1 rfl g10 dX11_setHops_56 (by rw [ef11]; rfl) (fun H locs hw => ?_)
      refine lv_aload_n hx hb dX11_setHops_57 rfl (lv_at hl 1 rfl) ?_
      refine k_get (ci := 11) (v := .ref a0.2.1) (C := RX11) (T := TX11) (N := 14) hx hb hts hown hz hw (by decide +kernel) 0 rfl rfl 0 (by decide) (hts (.fieldLink RX11 7 "OccupancyMonitorModel" "all" "[I") (by decide +kernel)) (fun _ h9 => h9) rfl dX11_setHops_58 ?_
      refine lv_iconst (v := 4) hx hb dX11_setHops_61 (by decide) ?_
      refine lv_iload_n hx hb dX11_setHops_62 rfl (lv_at hl 3 rfl) ?_
      obtain ⟨g12, hsp⟩ := grd_of hsp
      obtain ⟨f13, ef13⟩ : ∃ u : Nat → Int32, u = (upd f11 (4 : Int32).toNatClampNeg p2) := ⟨_, rfl⟩
      have hsp := lt_of hsp ef13
      refine k_iast (bs1 := [[(a0.1, .inr (11, [.ref a0.2.1, .ref a0.2.2.1, .int o8.2.2.1, .int o8.2.2.2.1, .ref a0.2.2.2.1, .int o8.2.2.2.2.2.1, .int o8.2.2.2.2.2.2.1, .ref a0.2.2.2.2.1, .int o8.2.2.2.2.2.2.2.2.1, .int o8.2.2.2.2.2.2.2.2.2.1, .int o8.2.2.2.2.2.2.2.2.2.2.1, .int o8.2.2.2.2.2.2.2.2.2.2.2.1, .ref a0.2.2.2.2.2, .int o8.2.2.2.2.2.2.2.2.2.2.2.2.2]))], [(a0.2.1, .inl (cA, o8.1.1, .inl f13))], [(a0.2.2.1, .inl (cA, o8.2.1.1, .inl o8.2.1.2))], [(a0.2.2.2.1, .inl (cA, o8.2.2.2.2.1.1, .inl o8.2.2.2.2.1.2))], [(a0.2.2.2.2.1, .inl (cA, o8.2.2.2.2.2.2.2.1.1, .inl o8.2.2.2.2.2.2.2.1.2))], [(a0.2.2.2.2.2, .inl (cA, o8.2.2.2.2.2.2.2.2.2.2.2.2.1.1, .inl o8.2.2.2.2.2.2.2.2.2.2.2.2.1.2))]]) hx hb hz hw 1 rfl g12 dX11_setHops_63 (by rw [ef13]; rfl) (fun H locs hw => ?_)
      refine lv_iload_n hx hb dX11_setHops_64 rfl (lv_at hl 0 rfl) ?_
      have hsp := Option.some.inj hsp
      subst hsp
      have hw : ww A s.heap D [w11 cA a0 ((o8.1.1, f13), o8.2.1, o8.2.2.1, o8.2.2.2.1, o8.2.2.2.2.1, o8.2.2.2.2.2.1, o8.2.2.2.2.2.2.1, o8.2.2.2.2.2.2.2.1, o8.2.2.2.2.2.2.2.2.1, o8.2.2.2.2.2.2.2.2.2.1, o8.2.2.2.2.2.2.2.2.2.2.1, o8.2.2.2.2.2.2.2.2.2.2.2.1, o8.2.2.2.2.2.2.2.2.2.2.2.2.1, o8.2.2.2.2.2.2.2.2.2.2.2.2.2)] H locs := hw
      subst hQ
      exact k_iret hx hb hr hlk hw dX11_setHops_65
    · have hsp := ift c7 hsp
      refine lv_iconst (v := 0) hx hb dX11_setHops_37 (by decide) ?_
      have hsp := Option.some.inj hsp
      subst hsp
      have hw : ww A s.heap D [w11 cA a0 o6.2] H locs := hw
      subst hQ
      exact k_iret hx hb hr hlk hw dX11_setHops_38
  have hsp := hsj5
  refine lv_if_eq (tgt := 29) hx hb dX11_setHops_10 (by decide) (fun c14 => ?_) (fun c14 => ?_)
  · have hsp := ift c14 hsp
    refine lv_iconst (v := 0) hx hb dX11_setHops_29 (by decide) ?_
    have hsp := Option.some.inj hsp
    subst hsp
    exact Jj5 _ _ _ hw (lv_sub hl [0, 1, 2] rfl)
  · have hsp := iff_ c14 hsp
    refine lv_iload_n hx hb dX11_setHops_13 rfl (lv_at hl 2 rfl) ?_
    refine lv_i2l hx hb dX11_setHops_14 rfl ?_
    refine lv_lconst (v := 0) hx hb dX11_setHops_15 (by decide) ?_
    refine lv_ldc2 hx hb hown (hts (.constantLong RX11 41 100) (by decide +kernel)) dX11_setHops_16 ?_
    obtain ⟨o15, hso15, hsp⟩ := bnd_of hsp
    refine k_callS (nA := 3) (As := [.long p2.toInt64, .long (0 : Int64), .long (100 : Int64)]) (cs := []) (rs := [[(a0.1, .inr (11, [.ref a0.2.1, .ref a0.2.2.1, .int v0.2.2.1, .int v0.2.2.2.1, .ref a0.2.2.2.1, .int v0.2.2.2.2.2.1, .int v0.2.2.2.2.2.2.1, .ref a0.2.2.2.2.1, .int v0.2.2.2.2.2.2.2.2.1, .int v0.2.2.2.2.2.2.2.2.2.1, .int v0.2.2.2.2.2.2.2.2.2.2.1, .int v0.2.2.2.2.2.2.2.2.2.2.2.1, .ref a0.2.2.2.2.2, .int v0.2.2.2.2.2.2.2.2.2.2.2.2.2]))], [(a0.2.1, .inl (cA, v0.1.1, .inl v0.1.2))], [(a0.2.2.1, .inl (cA, v0.2.1.1, .inl v0.2.1.2))], [(a0.2.2.2.1, .inl (cA, v0.2.2.2.2.1.1, .inl v0.2.2.2.2.1.2))], [(a0.2.2.2.2.1, .inl (cA, v0.2.2.2.2.2.2.2.1.1, .inl v0.2.2.2.2.2.2.2.1.2))], [(a0.2.2.2.2.2, .inl (cA, v0.2.2.2.2.2.2.2.2.2.2.2.2.1.1, .inl v0.2.2.2.2.2.2.2.2.2.2.2.2.1.2))]]) (cs1 := []) (bs1 := [[(a0.1, .inr (11, [.ref a0.2.1, .ref a0.2.2.1, .int v0.2.2.1, .int v0.2.2.2.1, .ref a0.2.2.2.1, .int v0.2.2.2.2.2.1, .int v0.2.2.2.2.2.2.1, .ref a0.2.2.2.2.1, .int v0.2.2.2.2.2.2.2.2.1, .int v0.2.2.2.2.2.2.2.2.2.1, .int v0.2.2.2.2.2.2.2.2.2.2.1, .int v0.2.2.2.2.2.2.2.2.2.2.2.1, .ref a0.2.2.2.2.2, .int v0.2.2.2.2.2.2.2.2.2.2.2.2.2]))], [(a0.2.1, .inl (cA, v0.1.1, .inl v0.1.2))], [(a0.2.2.1, .inl (cA, v0.2.1.1, .inl v0.2.1.2))], [(a0.2.2.2.1, .inl (cA, v0.2.2.2.2.1.1, .inl v0.2.2.2.2.1.2))], [(a0.2.2.2.2.1, .inl (cA, v0.2.2.2.2.2.2.2.1.1, .inl v0.2.2.2.2.2.2.2.1.2))], [(a0.2.2.2.2.2, .inl (cA, v0.2.2.2.2.2.2.2.2.2.2.2.2.1.1, .inl v0.2.2.2.2.2.2.2.2.2.2.2.2.1.2))]]) (rest := [.ref a0.1]) (st1 := [.int o15, .ref a0.1]) ⟨hx, hb, hml, hown, hts⟩ hz hw hA (mX11_in l D cA cR p2.toInt64 (0 : Int64) (100 : Int64) o15 hso15) gX11_setHops_X11_in rfl rfl rfl (by decide +kernel) rfl ⟨Nat.le_of_ble_eq_true rfl, Nat.le_of_ble_eq_true rfl⟩ hl.1 rfl (Nat.le_of_ble_eq_true rfl) dX11_setHops_19 ⟨Nat.le_of_ble_eq_true rfl, Nat.le_of_ble_eq_true rfl⟩ [] [0, 1, 2, 3, 4, 5] [0, 1, 2, 3, 4, 5] rfl rfl rfl rfl rfl rfl (fun H locs hw => ?_)
    refine lv_if_eq (tgt := 29) hx hb dX11_setHops_22 (by decide) (fun c16 => ?_) (fun c16 => ?_)
    · have hsp := ift c16 hsp
      refine lv_iconst (v := 0) hx hb dX11_setHops_29 (by decide) ?_
      have hsp := Option.some.inj hsp
      subst hsp
      exact Jj5 _ _ _ hw (lv_sub hl [0, 1, 2] rfl)
    · have hsp := iff_ c16 hsp
      refine lv_iconst (v := 1) hx hb dX11_setHops_25 (by decide) ?_
      refine lv_goto (tgt := 30) hx hb dX11_setHops_26 (by decide) ?_
      have hsp := Option.some.inj hsp
      subst hsp
      exact Jj5 _ _ _ hw (lv_sub hl [0, 1, 2] rfl)
noncomputable def sX11_append (v0 : V11) (p1 : Int32) : Option (Int32 × V11) := ((sX11_in p1.toInt64 (0 : Int64) (127 : Int64)).bind (fun o1 => (((if (100 : Int32) ≤ v0.2.2.2.2.2.1 then (some (0 : Int32)) else (some (1 : Int32))) : Option (Int32)).bind (fun j3 => ((sX11_goes v0 o1 j3).bind (fun o4 => (if o4.1 = 0 then (some ((0 : Int32), o4.2)) else (grd (vp_in o4.2.2.2.2.2.2.1 o4.2.2.2.2.2.1.1) (lt_ (upd o4.2.2.2.2.2.1.2 o4.2.2.2.2.2.2.1.toNatClampNeg p1) (fun f7 => (some ((o4.2.2.2.2.2.2.1 + (1 : Int32)), (o4.2.1, o4.2.2.1, o4.2.2.2.1, o4.2.2.2.2.1, (o4.2.2.2.2.2.1.1, f7), (o4.2.2.2.2.2.2.1 + (1 : Int32)), o4.2.2.2.2.2.2.2.1, o4.2.2.2.2.2.2.2.2.1, o4.2.2.2.2.2.2.2.2.2.1, o4.2.2.2.2.2.2.2.2.2.2.1, o4.2.2.2.2.2.2.2.2.2.2.2.1, o4.2.2.2.2.2.2.2.2.2.2.2.2.1, o4.2.2.2.2.2.2.2.2.2.2.2.2.2.1, o4.2.2.2.2.2.2.2.2.2.2.2.2.2.2)))))))))))))
abbrev rX11_append : Room := { frames := 1, cells := 0, slots := 0, locals := 25 }
set_option maxHeartbeats 4000000 in
set_option maxRecDepth 100000 in
theorem mX11_append (l : Launch) (D : va_G) (cA cR : ClassId) (a0 : A11) (v0 : V11) (p1 : Int32) (o : Int32 × V11) (hsp : sX11_append v0 p1 = some o) : MI l yX11_append wsX11_append rX11_append D cA cR [.ref a0.1, .int p1] [w11 cA a0 v0] (some (.int o.1)) [w11 cA a0 o.2] 0 0 := by
  have hsp : ((sX11_in p1.toInt64 (0 : Int64) (127 : Int64)).bind (fun o1 => (((if (100 : Int32) ≤ v0.2.2.2.2.2.1 then (some (0 : Int32)) else (some (1 : Int32))) : Option (Int32)).bind (fun j3 => ((sX11_goes v0 o1 j3).bind (fun o4 => (if o4.1 = 0 then (some ((0 : Int32), o4.2)) else (grd (vp_in o4.2.2.2.2.2.2.1 o4.2.2.2.2.2.1.1) (lt_ (upd o4.2.2.2.2.2.1.2 o4.2.2.2.2.2.2.1.toNatClampNeg p1) (fun f7 => (some ((o4.2.2.2.2.2.2.1 + (1 : Int32)), (o4.2.1, o4.2.2.1, o4.2.2.2.1, o4.2.2.2.2.1, (o4.2.2.2.2.2.1.1, f7), (o4.2.2.2.2.2.2.1 + (1 : Int32)), o4.2.2.2.2.2.2.2.1, o4.2.2.2.2.2.2.2.2.1, o4.2.2.2.2.2.2.2.2.2.1, o4.2.2.2.2.2.2.2.2.2.2.1, o4.2.2.2.2.2.2.2.2.2.2.2.1, o4.2.2.2.2.2.2.2.2.2.2.2.2.1, o4.2.2.2.2.2.2.2.2.2.2.2.2.2.1, o4.2.2.2.2.2.2.2.2.2.2.2.2.2.2))))))))))))) = some o := hsp
  refine MI.ofW (cc := cX11_append) (maxL := 2) (ret := (some .int)) (by decide) rfl (Nat.le_of_ble_eq_true rfl) ?_
  intro p e s m args below meth c A ls Q H locs hx hb hr hlk hml hown hnm hts hz hA hQ hw hl
  have hl : lv_has ls 2 [(0, .ref a0.1), (1, .int p1)] := hl
  have hw : ww A s.heap D [[(a0.1, .inr (11, [.ref a0.2.1, .ref a0.2.2.1, .int v0.2.2.1, .int v0.2.2.2.1, .ref a0.2.2.2.1, .int v0.2.2.2.2.2.1, .int v0.2.2.2.2.2.2.1, .ref a0.2.2.2.2.1, .int v0.2.2.2.2.2.2.2.2.1, .int v0.2.2.2.2.2.2.2.2.2.1, .int v0.2.2.2.2.2.2.2.2.2.2.1, .int v0.2.2.2.2.2.2.2.2.2.2.2.1, .ref a0.2.2.2.2.2, .int v0.2.2.2.2.2.2.2.2.2.2.2.2.2]))], [(a0.2.1, .inl (cA, v0.1.1, .inl v0.1.2))], [(a0.2.2.1, .inl (cA, v0.2.1.1, .inl v0.2.1.2))], [(a0.2.2.2.1, .inl (cA, v0.2.2.2.2.1.1, .inl v0.2.2.2.2.1.2))], [(a0.2.2.2.2.1, .inl (cA, v0.2.2.2.2.2.2.2.1.1, .inl v0.2.2.2.2.2.2.2.1.2))], [(a0.2.2.2.2.2, .inl (cA, v0.2.2.2.2.2.2.2.2.2.2.2.2.1.1, .inl v0.2.2.2.2.2.2.2.2.2.2.2.2.1.2))]] H locs := hw
  refine lv_aload_n hx hb dX11_append_0 rfl (lv_at hl 0 rfl) ?_
  refine lv_iload_n hx hb dX11_append_1 rfl (lv_at hl 1 rfl) ?_
  refine lv_i2l hx hb dX11_append_2 rfl ?_
  refine lv_lconst (v := 0) hx hb dX11_append_3 (by decide) ?_
  refine lv_ldc2 hx hb hown (hts (.constantLong RX11 68 127) (by decide +kernel)) dX11_append_4 ?_
  obtain ⟨o1, hso1, hsp⟩ := bnd_of hsp
  refine k_callS (nA := 3) (As := [.long p1.toInt64, .long (0 : Int64), .long (127 : Int64)]) (cs := []) (rs := [[(a0.1, .inr (11, [.ref a0.2.1, .ref a0.2.2.1, .int v0.2.2.1, .int v0.2.2.2.1, .ref a0.2.2.2.1, .int v0.2.2.2.2.2.1, .int v0.2.2.2.2.2.2.1, .ref a0.2.2.2.2.1, .int v0.2.2.2.2.2.2.2.2.1, .int v0.2.2.2.2.2.2.2.2.2.1, .int v0.2.2.2.2.2.2.2.2.2.2.1, .int v0.2.2.2.2.2.2.2.2.2.2.2.1, .ref a0.2.2.2.2.2, .int v0.2.2.2.2.2.2.2.2.2.2.2.2.2]))], [(a0.2.1, .inl (cA, v0.1.1, .inl v0.1.2))], [(a0.2.2.1, .inl (cA, v0.2.1.1, .inl v0.2.1.2))], [(a0.2.2.2.1, .inl (cA, v0.2.2.2.2.1.1, .inl v0.2.2.2.2.1.2))], [(a0.2.2.2.2.1, .inl (cA, v0.2.2.2.2.2.2.2.1.1, .inl v0.2.2.2.2.2.2.2.1.2))], [(a0.2.2.2.2.2, .inl (cA, v0.2.2.2.2.2.2.2.2.2.2.2.2.1.1, .inl v0.2.2.2.2.2.2.2.2.2.2.2.2.1.2))]]) (cs1 := []) (bs1 := [[(a0.1, .inr (11, [.ref a0.2.1, .ref a0.2.2.1, .int v0.2.2.1, .int v0.2.2.2.1, .ref a0.2.2.2.1, .int v0.2.2.2.2.2.1, .int v0.2.2.2.2.2.2.1, .ref a0.2.2.2.2.1, .int v0.2.2.2.2.2.2.2.2.1, .int v0.2.2.2.2.2.2.2.2.2.1, .int v0.2.2.2.2.2.2.2.2.2.2.1, .int v0.2.2.2.2.2.2.2.2.2.2.2.1, .ref a0.2.2.2.2.2, .int v0.2.2.2.2.2.2.2.2.2.2.2.2.2]))], [(a0.2.1, .inl (cA, v0.1.1, .inl v0.1.2))], [(a0.2.2.1, .inl (cA, v0.2.1.1, .inl v0.2.1.2))], [(a0.2.2.2.1, .inl (cA, v0.2.2.2.2.1.1, .inl v0.2.2.2.2.1.2))], [(a0.2.2.2.2.1, .inl (cA, v0.2.2.2.2.2.2.2.1.1, .inl v0.2.2.2.2.2.2.2.1.2))], [(a0.2.2.2.2.2, .inl (cA, v0.2.2.2.2.2.2.2.2.2.2.2.2.1.1, .inl v0.2.2.2.2.2.2.2.2.2.2.2.2.1.2))]]) (rest := [.ref a0.1]) (st1 := [.int o1, .ref a0.1]) ⟨hx, hb, hml, hown, hts⟩ hz hw hA (mX11_in l D cA cR p1.toInt64 (0 : Int64) (127 : Int64) o1 hso1) gX11_append_X11_in rfl rfl rfl (by decide +kernel) rfl ⟨Nat.le_of_ble_eq_true rfl, Nat.le_of_ble_eq_true rfl⟩ hl.1 rfl (Nat.le_of_ble_eq_true rfl) dX11_append_7 ⟨Nat.le_of_ble_eq_true rfl, Nat.le_of_ble_eq_true rfl⟩ [] [0, 1, 2, 3, 4, 5] [0, 1, 2, 3, 4, 5] rfl rfl rfl rfl rfl rfl (fun H locs hw => ?_)
  refine lv_aload_n hx hb dX11_append_10 rfl (lv_at hl 0 rfl) ?_
  refine k_get (ci := 11) (v := .int v0.2.2.2.2.2.1) (C := RX11) (T := TX11) (N := 14) hx hb hts hown hz hw (by decide +kernel) 0 rfl rfl 5 (by decide) (hts (.fieldLink RX11 70 "OccupancyMonitorModel" "textLong" "I") (by decide +kernel)) (fun _ h9 => h9) rfl dX11_append_11 ?_
  refine lv_bipush (v := 100) hx hb dX11_append_14 (by decide) ?_
  obtain ⟨j3, hsj3, hkj3⟩ := bnd_of hsp
  have Jj3 : ∀ (H : Heap) (locs : List Loc) (ls : Array Slot), ww A s.heap D [[(a0.1, .inr (11, [.ref a0.2.1, .ref a0.2.2.1, .int v0.2.2.1, .int v0.2.2.2.1, .ref a0.2.2.2.1, .int v0.2.2.2.2.2.1, .int v0.2.2.2.2.2.2.1, .ref a0.2.2.2.2.1, .int v0.2.2.2.2.2.2.2.2.1, .int v0.2.2.2.2.2.2.2.2.2.1, .int v0.2.2.2.2.2.2.2.2.2.2.1, .int v0.2.2.2.2.2.2.2.2.2.2.2.1, .ref a0.2.2.2.2.2, .int v0.2.2.2.2.2.2.2.2.2.2.2.2.2]))], [(a0.2.1, .inl (cA, v0.1.1, .inl v0.1.2))], [(a0.2.2.1, .inl (cA, v0.2.1.1, .inl v0.2.1.2))], [(a0.2.2.2.1, .inl (cA, v0.2.2.2.2.1.1, .inl v0.2.2.2.2.1.2))], [(a0.2.2.2.2.1, .inl (cA, v0.2.2.2.2.2.2.2.1.1, .inl v0.2.2.2.2.2.2.2.1.2))], [(a0.2.2.2.2.2, .inl (cA, v0.2.2.2.2.2.2.2.2.2.2.2.2.1.1, .inl v0.2.2.2.2.2.2.2.2.2.2.2.2.1.2))]] H locs → lv_has ls 2 [(0, .ref a0.1), (1, .int p1)] → W p l e rX11_append s m args below meth c H locs 0 0 Q (F0 m 24 ls [.int j3, .int o1, .ref a0.1]) := by
    intro H locs ls hw hl
    have hsp := hkj3
    have hw : ww A s.heap D [w11 cA a0 v0] H locs := hw
    obtain ⟨o4, hso4, hsp⟩ := bnd_of hsp
    refine k_callV (ci := 11) (C := RX11) (T := TX11) (N := 14) (nA := 2) (As := [.int o1, .int j3]) (cs := [w11 cA a0 v0]) (rs := []) (cs1 := [w11 cA a0 o4.2]) (bs1 := [w11 cA a0 o4.2]) (rest := []) (st1 := [.int o4.1]) ⟨hx, hb, hml, hown, hts⟩ hz hw hA (mX11_goes l D cA cR a0 v0 o1 j3 o4 hso4) gX11_append_X11_goes rfl rfl rfl (by decide +kernel) rfl ⟨Nat.le_of_ble_eq_true rfl, Nat.le_of_ble_eq_true rfl⟩ rfl rfl hl.1 rfl (Nat.le_of_ble_eq_true rfl) dX11_append_24 ⟨Nat.le_of_ble_eq_true rfl, Nat.le_of_ble_eq_true rfl⟩ [0] [] [0] rfl rfl rfl rfl rfl rfl (fun H locs hw => ?_)
    have hw : ww A s.heap D [[(a0.1, .inr (11, [.ref a0.2.1, .ref a0.2.2.1, .int o4.2.2.2.1, .int o4.2.2.2.2.1, .ref a0.2.2.2.1, .int o4.2.2.2.2.2.2.1, .int o4.2.2.2.2.2.2.2.1, .ref a0.2.2.2.2.1, .int o4.2.2.2.2.2.2.2.2.2.1, .int o4.2.2.2.2.2.2.2.2.2.2.1, .int o4.2.2.2.2.2.2.2.2.2.2.2.1, .int o4.2.2.2.2.2.2.2.2.2.2.2.2.1, .ref a0.2.2.2.2.2, .int o4.2.2.2.2.2.2.2.2.2.2.2.2.2.2]))], [(a0.2.1, .inl (cA, o4.2.1.1, .inl o4.2.1.2))], [(a0.2.2.1, .inl (cA, o4.2.2.1.1, .inl o4.2.2.1.2))], [(a0.2.2.2.1, .inl (cA, o4.2.2.2.2.2.1.1, .inl o4.2.2.2.2.2.1.2))], [(a0.2.2.2.2.1, .inl (cA, o4.2.2.2.2.2.2.2.2.1.1, .inl o4.2.2.2.2.2.2.2.2.1.2))], [(a0.2.2.2.2.2, .inl (cA, o4.2.2.2.2.2.2.2.2.2.2.2.2.2.1.1, .inl o4.2.2.2.2.2.2.2.2.2.2.2.2.2.1.2))]] H locs := hw
    refine lv_if_ne (tgt := 32) hx hb dX11_append_27 (by decide) (fun c5 => ?_) (fun c5 => ?_)
    · have hsp := iff_ c5 hsp
      refine lv_aload_n hx hb dX11_append_32 rfl (lv_at hl 0 rfl) ?_
      refine k_get (ci := 11) (v := .ref a0.2.2.2.1) (C := RX11) (T := TX11) (N := 14) hx hb hts hown hz hw (by decide +kernel) 0 rfl rfl 4 (by decide) (hts (.fieldLink RX11 16 "OccupancyMonitorModel" "text" "[I") (by decide +kernel)) (fun _ h9 => h9) rfl dX11_append_33 ?_
      refine lv_aload_n hx hb dX11_append_36 rfl (lv_at hl 0 rfl) ?_
      refine k_get (ci := 11) (v := .int o4.2.2.2.2.2.2.1) (C := RX11) (T := TX11) (N := 14) hx hb hts hown hz hw (by decide +kernel) 0 rfl rfl 5 (by decide) (hts (.fieldLink RX11 70 "OccupancyMonitorModel" "textLong" "I") (by decide +kernel)) (fun _ h9 => h9) rfl dX11_append_37 ?_
      refine lv_iload_n hx hb dX11_append_40 rfl (lv_at hl 1 rfl) ?_
      obtain ⟨g6, hsp⟩ := grd_of hsp
      obtain ⟨f7, ef7⟩ : ∃ u : Nat → Int32, u = (upd o4.2.2.2.2.2.1.2 o4.2.2.2.2.2.2.1.toNatClampNeg p1) := ⟨_, rfl⟩
      have hsp := lt_of hsp ef7
      refine k_iast (bs1 := [[(a0.1, .inr (11, [.ref a0.2.1, .ref a0.2.2.1, .int o4.2.2.2.1, .int o4.2.2.2.2.1, .ref a0.2.2.2.1, .int o4.2.2.2.2.2.2.1, .int o4.2.2.2.2.2.2.2.1, .ref a0.2.2.2.2.1, .int o4.2.2.2.2.2.2.2.2.2.1, .int o4.2.2.2.2.2.2.2.2.2.2.1, .int o4.2.2.2.2.2.2.2.2.2.2.2.1, .int o4.2.2.2.2.2.2.2.2.2.2.2.2.1, .ref a0.2.2.2.2.2, .int o4.2.2.2.2.2.2.2.2.2.2.2.2.2.2]))], [(a0.2.1, .inl (cA, o4.2.1.1, .inl o4.2.1.2))], [(a0.2.2.1, .inl (cA, o4.2.2.1.1, .inl o4.2.2.1.2))], [(a0.2.2.2.1, .inl (cA, o4.2.2.2.2.2.1.1, .inl f7))], [(a0.2.2.2.2.1, .inl (cA, o4.2.2.2.2.2.2.2.2.1.1, .inl o4.2.2.2.2.2.2.2.2.1.2))], [(a0.2.2.2.2.2, .inl (cA, o4.2.2.2.2.2.2.2.2.2.2.2.2.2.1.1, .inl o4.2.2.2.2.2.2.2.2.2.2.2.2.2.1.2))]]) hx hb hz hw 3 rfl g6 dX11_append_41 (by rw [ef7]; rfl) (fun H locs hw => ?_)
      refine lv_aload_n hx hb dX11_append_42 rfl (lv_at hl 0 rfl) ?_
      refine lv_dup hx hb dX11_append_43 rfl ?_
      refine k_get (ci := 11) (v := .int o4.2.2.2.2.2.2.1) (C := RX11) (T := TX11) (N := 14) hx hb hts hown hz hw (by decide +kernel) 0 rfl rfl 5 (by decide) (hts (.fieldLink RX11 70 "OccupancyMonitorModel" "textLong" "I") (by decide +kernel)) (fun _ h9 => h9) rfl dX11_append_44 ?_
      refine lv_iconst (v := 1) hx hb dX11_append_47 (by decide) ?_
      refine lv_iadd hx hb dX11_append_48 ?_
      refine k_put (ci := 11) (v := .int (o4.2.2.2.2.2.2.1 + (1 : Int32))) (ty := .int) (C := RX11) (T := TX11) (N := 14) (bs1 := [[(a0.1, .inr (11, [.ref a0.2.1, .ref a0.2.2.1, .int o4.2.2.2.1, .int o4.2.2.2.2.1, .ref a0.2.2.2.1, .int (o4.2.2.2.2.2.2.1 + (1 : Int32)), .int o4.2.2.2.2.2.2.2.1, .ref a0.2.2.2.2.1, .int o4.2.2.2.2.2.2.2.2.2.1, .int o4.2.2.2.2.2.2.2.2.2.2.1, .int o4.2.2.2.2.2.2.2.2.2.2.2.1, .int o4.2.2.2.2.2.2.2.2.2.2.2.2.1, .ref a0.2.2.2.2.2, .int o4.2.2.2.2.2.2.2.2.2.2.2.2.2.2]))], [(a0.2.1, .inl (cA, o4.2.1.1, .inl o4.2.1.2))], [(a0.2.2.1, .inl (cA, o4.2.2.1.1, .inl o4.2.2.1.2))], [(a0.2.2.2.1, .inl (cA, o4.2.2.2.2.2.1.1, .inl f7))], [(a0.2.2.2.2.1, .inl (cA, o4.2.2.2.2.2.2.2.2.1.1, .inl o4.2.2.2.2.2.2.2.2.1.2))], [(a0.2.2.2.2.2, .inl (cA, o4.2.2.2.2.2.2.2.2.2.2.2.2.2.1.1, .inl o4.2.2.2.2.2.2.2.2.2.2.2.2.2.1.2))]]) hx hb hts hown hz hw (by decide +kernel) tyX11 tyX11_ok nmX11 0 rfl rfl 5 (by decide) (hts (.fieldLink RX11 70 "OccupancyMonitorModel" "textLong" "I") (by decide +kernel)) (fun _ h9 => h9) rfl (by decide +kernel) rfl rfl (Nat.le_of_ble_eq_true rfl) dX11_append_49 rfl (fun H locs hw => ?_)
      refine lv_aload_n hx hb dX11_append_52 rfl (lv_at hl 0 rfl) ?_
      refine k_get (ci := 11) (v := .int (o4.2.2.2.2.2.2.1 + (1 : Int32))) (C := RX11) (T := TX11) (N := 14) hx hb hts hown hz hw (by decide +kernel) 0 rfl rfl 5 (by decide) (hts (.fieldLink RX11 70 "OccupancyMonitorModel" "textLong" "I") (by decide +kernel)) (fun _ h9 => h9) rfl dX11_append_53 ?_
      have hsp := Option.some.inj hsp
      subst hsp
      have hw : ww A s.heap D [w11 cA a0 (o4.2.1, o4.2.2.1, o4.2.2.2.1, o4.2.2.2.2.1, (o4.2.2.2.2.2.1.1, f7), (o4.2.2.2.2.2.2.1 + (1 : Int32)), o4.2.2.2.2.2.2.2.1, o4.2.2.2.2.2.2.2.2.1, o4.2.2.2.2.2.2.2.2.2.1, o4.2.2.2.2.2.2.2.2.2.2.1, o4.2.2.2.2.2.2.2.2.2.2.2.1, o4.2.2.2.2.2.2.2.2.2.2.2.2.1, o4.2.2.2.2.2.2.2.2.2.2.2.2.2.1, o4.2.2.2.2.2.2.2.2.2.2.2.2.2.2)] H locs := hw
      subst hQ
      exact k_iret hx hb hr hlk hw dX11_append_56
    · have hsp := ift c5 hsp
      refine lv_iconst (v := 0) hx hb dX11_append_30 (by decide) ?_
      have hsp := Option.some.inj hsp
      subst hsp
      have hw : ww A s.heap D [w11 cA a0 o4.2] H locs := hw
      subst hQ
      exact k_iret hx hb hr hlk hw dX11_append_31
  have hsp := hsj3
  refine lv_icmp_ge (tgt := 23) hx hb dX11_append_16 (by decide) (fun c8 => ?_) (fun c8 => ?_)
  · have hsp := ift c8 hsp
    refine lv_iconst (v := 0) hx hb dX11_append_23 (by decide) ?_
    have hsp := Option.some.inj hsp
    subst hsp
    exact Jj3 _ _ _ hw (lv_sub hl [0, 1] rfl)
  · have hsp := iff_ c8 hsp
    refine lv_iconst (v := 1) hx hb dX11_append_19 (by decide) ?_
    refine lv_goto (tgt := 24) hx hb dX11_append_20 (by decide) ?_
    have hsp := Option.some.inj hsp
    subst hsp
    exact Jj3 _ _ _ hw (lv_sub hl [0, 1] rfl)
noncomputable def sX11_clearText (v0 : V11) : Option (Int32 × V11) := (some (v0.2.2.2.2.2.1, (v0.1, v0.2.1, v0.2.2.1, (0 : Int32), v0.2.2.2.2.1, (0 : Int32), v0.2.2.2.2.2.2.1, v0.2.2.2.2.2.2.2.1, v0.2.2.2.2.2.2.2.2.1, v0.2.2.2.2.2.2.2.2.2.1, v0.2.2.2.2.2.2.2.2.2.2.1, v0.2.2.2.2.2.2.2.2.2.2.2.1, v0.2.2.2.2.2.2.2.2.2.2.2.2.1, v0.2.2.2.2.2.2.2.2.2.2.2.2.2)))
abbrev rX11_clearText : Room := { frames := 0, cells := 0, slots := 0, locals := 0 }
set_option maxHeartbeats 4000000 in
set_option maxRecDepth 100000 in
theorem mX11_clearText (l : Launch) (D : va_G) (cA cR : ClassId) (a0 : A11) (v0 : V11) (o : Int32 × V11) (hsp : sX11_clearText v0 = some o) : MI l yX11_clearText wsX11_clearText rX11_clearText D cA cR [.ref a0.1] [w11 cA a0 v0] (some (.int o.1)) [w11 cA a0 o.2] 0 0 := by
  have hsp : (some (v0.2.2.2.2.2.1, (v0.1, v0.2.1, v0.2.2.1, (0 : Int32), v0.2.2.2.2.1, (0 : Int32), v0.2.2.2.2.2.2.1, v0.2.2.2.2.2.2.2.1, v0.2.2.2.2.2.2.2.2.1, v0.2.2.2.2.2.2.2.2.2.1, v0.2.2.2.2.2.2.2.2.2.2.1, v0.2.2.2.2.2.2.2.2.2.2.2.1, v0.2.2.2.2.2.2.2.2.2.2.2.2.1, v0.2.2.2.2.2.2.2.2.2.2.2.2.2))) = some o := hsp
  refine MI.ofW (cc := cX11_clearText) (maxL := 2) (ret := (some .int)) (by decide) rfl (Nat.le_of_ble_eq_true rfl) ?_
  intro p e s m args below meth c A ls Q H locs hx hb hr hlk hml hown hnm hts hz hA hQ hw hl
  have hl : lv_has ls 2 [(0, .ref a0.1)] := hl
  have hw : ww A s.heap D [[(a0.1, .inr (11, [.ref a0.2.1, .ref a0.2.2.1, .int v0.2.2.1, .int v0.2.2.2.1, .ref a0.2.2.2.1, .int v0.2.2.2.2.2.1, .int v0.2.2.2.2.2.2.1, .ref a0.2.2.2.2.1, .int v0.2.2.2.2.2.2.2.2.1, .int v0.2.2.2.2.2.2.2.2.2.1, .int v0.2.2.2.2.2.2.2.2.2.2.1, .int v0.2.2.2.2.2.2.2.2.2.2.2.1, .ref a0.2.2.2.2.2, .int v0.2.2.2.2.2.2.2.2.2.2.2.2.2]))], [(a0.2.1, .inl (cA, v0.1.1, .inl v0.1.2))], [(a0.2.2.1, .inl (cA, v0.2.1.1, .inl v0.2.1.2))], [(a0.2.2.2.1, .inl (cA, v0.2.2.2.2.1.1, .inl v0.2.2.2.2.1.2))], [(a0.2.2.2.2.1, .inl (cA, v0.2.2.2.2.2.2.2.1.1, .inl v0.2.2.2.2.2.2.2.1.2))], [(a0.2.2.2.2.2, .inl (cA, v0.2.2.2.2.2.2.2.2.2.2.2.2.1.1, .inl v0.2.2.2.2.2.2.2.2.2.2.2.2.1.2))]] H locs := hw
  refine lv_aload_n hx hb dX11_clearText_0 rfl (lv_at hl 0 rfl) ?_
  refine lv_iconst (v := 0) hx hb dX11_clearText_1 (by decide) ?_
  refine k_put (ci := 11) (v := .int (0 : Int32)) (ty := .int) (C := RX11) (T := TX11) (N := 14) (bs1 := [[(a0.1, .inr (11, [.ref a0.2.1, .ref a0.2.2.1, .int v0.2.2.1, .int (0 : Int32), .ref a0.2.2.2.1, .int v0.2.2.2.2.2.1, .int v0.2.2.2.2.2.2.1, .ref a0.2.2.2.2.1, .int v0.2.2.2.2.2.2.2.2.1, .int v0.2.2.2.2.2.2.2.2.2.1, .int v0.2.2.2.2.2.2.2.2.2.2.1, .int v0.2.2.2.2.2.2.2.2.2.2.2.1, .ref a0.2.2.2.2.2, .int v0.2.2.2.2.2.2.2.2.2.2.2.2.2]))], [(a0.2.1, .inl (cA, v0.1.1, .inl v0.1.2))], [(a0.2.2.1, .inl (cA, v0.2.1.1, .inl v0.2.1.2))], [(a0.2.2.2.1, .inl (cA, v0.2.2.2.2.1.1, .inl v0.2.2.2.2.1.2))], [(a0.2.2.2.2.1, .inl (cA, v0.2.2.2.2.2.2.2.1.1, .inl v0.2.2.2.2.2.2.2.1.2))], [(a0.2.2.2.2.2, .inl (cA, v0.2.2.2.2.2.2.2.2.2.2.2.2.1.1, .inl v0.2.2.2.2.2.2.2.2.2.2.2.2.1.2))]]) hx hb hts hown hz hw (by decide +kernel) tyX11 tyX11_ok nmX11 0 rfl rfl 3 (by decide) (hts (.fieldLink RX11 28 "OccupancyMonitorModel" "thrown" "I") (by decide +kernel)) (fun _ h9 => h9) rfl (by decide +kernel) rfl rfl (Nat.le_of_ble_eq_true rfl) dX11_clearText_2 rfl (fun H locs hw => ?_)
  refine lv_aload_n hx hb dX11_clearText_5 rfl (lv_at hl 0 rfl) ?_
  refine k_get (ci := 11) (v := .int v0.2.2.2.2.2.1) (C := RX11) (T := TX11) (N := 14) hx hb hts hown hz hw (by decide +kernel) 0 rfl rfl 5 (by decide) (hts (.fieldLink RX11 70 "OccupancyMonitorModel" "textLong" "I") (by decide +kernel)) (fun _ h9 => h9) rfl dX11_clearText_6 ?_
  refine lv_istore_n (lv' := [(1, .int v0.2.2.2.2.2.1), (0, .ref a0.1)]) hx hb dX11_clearText_9 rfl hl (by decide) rfl (fun ls hl => ?_)
  refine lv_aload_n hx hb dX11_clearText_10 rfl (lv_at hl 1 rfl) ?_
  refine lv_iconst (v := 0) hx hb dX11_clearText_11 (by decide) ?_
  refine k_put (ci := 11) (v := .int (0 : Int32)) (ty := .int) (C := RX11) (T := TX11) (N := 14) (bs1 := [[(a0.1, .inr (11, [.ref a0.2.1, .ref a0.2.2.1, .int v0.2.2.1, .int (0 : Int32), .ref a0.2.2.2.1, .int (0 : Int32), .int v0.2.2.2.2.2.2.1, .ref a0.2.2.2.2.1, .int v0.2.2.2.2.2.2.2.2.1, .int v0.2.2.2.2.2.2.2.2.2.1, .int v0.2.2.2.2.2.2.2.2.2.2.1, .int v0.2.2.2.2.2.2.2.2.2.2.2.1, .ref a0.2.2.2.2.2, .int v0.2.2.2.2.2.2.2.2.2.2.2.2.2]))], [(a0.2.1, .inl (cA, v0.1.1, .inl v0.1.2))], [(a0.2.2.1, .inl (cA, v0.2.1.1, .inl v0.2.1.2))], [(a0.2.2.2.1, .inl (cA, v0.2.2.2.2.1.1, .inl v0.2.2.2.2.1.2))], [(a0.2.2.2.2.1, .inl (cA, v0.2.2.2.2.2.2.2.1.1, .inl v0.2.2.2.2.2.2.2.1.2))], [(a0.2.2.2.2.2, .inl (cA, v0.2.2.2.2.2.2.2.2.2.2.2.2.1.1, .inl v0.2.2.2.2.2.2.2.2.2.2.2.2.1.2))]]) hx hb hts hown hz hw (by decide +kernel) tyX11 tyX11_ok nmX11 0 rfl rfl 5 (by decide) (hts (.fieldLink RX11 70 "OccupancyMonitorModel" "textLong" "I") (by decide +kernel)) (fun _ h9 => h9) rfl (by decide +kernel) rfl rfl (Nat.le_of_ble_eq_true rfl) dX11_clearText_12 rfl (fun H locs hw => ?_)
  refine lv_iload_n hx hb dX11_clearText_15 rfl (lv_at hl 0 rfl) ?_
  have hsp := Option.some.inj hsp
  subst hsp
  have hw : ww A s.heap D [w11 cA a0 (v0.1, v0.2.1, v0.2.2.1, (0 : Int32), v0.2.2.2.2.1, (0 : Int32), v0.2.2.2.2.2.2.1, v0.2.2.2.2.2.2.2.1, v0.2.2.2.2.2.2.2.2.1, v0.2.2.2.2.2.2.2.2.2.1, v0.2.2.2.2.2.2.2.2.2.2.1, v0.2.2.2.2.2.2.2.2.2.2.2.1, v0.2.2.2.2.2.2.2.2.2.2.2.2.1, v0.2.2.2.2.2.2.2.2.2.2.2.2.2)] H locs := hw
  subst hQ
  exact k_iret hx hb hr hlk hw dX11_clearText_16
noncomputable def sX11_here (v0 : V11) : Option (Int32) := (if v0.2.2.2.2.2.1 ≤ v0.2.2.2.2.2.2.1 then (some (-1 : Int32)) else (grd (vp_in v0.2.2.2.2.2.2.1 v0.2.2.2.2.1.1) (some (v0.2.2.2.2.1.2 v0.2.2.2.2.2.2.1.toNatClampNeg))))
abbrev rX11_here : Room := { frames := 0, cells := 0, slots := 0, locals := 0 }
set_option maxHeartbeats 4000000 in
set_option maxRecDepth 100000 in
theorem mX11_here (l : Launch) (D : va_G) (cA cR : ClassId) (a0 : A11) (v0 : V11) (o : Int32) (hsp : sX11_here v0 = some o) : MI l yX11_here wsX11_here rX11_here D cA cR [.ref a0.1] [w11 cA a0 v0] (some (.int o)) [w11 cA a0 v0] 0 0 := by
  have hsp : (if v0.2.2.2.2.2.1 ≤ v0.2.2.2.2.2.2.1 then (some (-1 : Int32)) else (grd (vp_in v0.2.2.2.2.2.2.1 v0.2.2.2.2.1.1) (some (v0.2.2.2.2.1.2 v0.2.2.2.2.2.2.1.toNatClampNeg)))) = some o := hsp
  refine MI.ofW (cc := cX11_here) (maxL := 1) (ret := (some .int)) (by decide) rfl (Nat.le_of_ble_eq_true rfl) ?_
  intro p e s m args below meth c A ls Q H locs hx hb hr hlk hml hown hnm hts hz hA hQ hw hl
  have hl : lv_has ls 1 [(0, .ref a0.1)] := hl
  have hw : ww A s.heap D [[(a0.1, .inr (11, [.ref a0.2.1, .ref a0.2.2.1, .int v0.2.2.1, .int v0.2.2.2.1, .ref a0.2.2.2.1, .int v0.2.2.2.2.2.1, .int v0.2.2.2.2.2.2.1, .ref a0.2.2.2.2.1, .int v0.2.2.2.2.2.2.2.2.1, .int v0.2.2.2.2.2.2.2.2.2.1, .int v0.2.2.2.2.2.2.2.2.2.2.1, .int v0.2.2.2.2.2.2.2.2.2.2.2.1, .ref a0.2.2.2.2.2, .int v0.2.2.2.2.2.2.2.2.2.2.2.2.2]))], [(a0.2.1, .inl (cA, v0.1.1, .inl v0.1.2))], [(a0.2.2.1, .inl (cA, v0.2.1.1, .inl v0.2.1.2))], [(a0.2.2.2.1, .inl (cA, v0.2.2.2.2.1.1, .inl v0.2.2.2.2.1.2))], [(a0.2.2.2.2.1, .inl (cA, v0.2.2.2.2.2.2.2.1.1, .inl v0.2.2.2.2.2.2.2.1.2))], [(a0.2.2.2.2.2, .inl (cA, v0.2.2.2.2.2.2.2.2.2.2.2.2.1.1, .inl v0.2.2.2.2.2.2.2.2.2.2.2.2.1.2))]] H locs := hw
  refine lv_aload_n hx hb dX11_here_0 rfl (lv_at hl 0 rfl) ?_
  refine k_get (ci := 11) (v := .int v0.2.2.2.2.2.2.1) (C := RX11) (T := TX11) (N := 14) hx hb hts hown hz hw (by decide +kernel) 0 rfl rfl 6 (by decide) (hts (.fieldLink RX11 73 "OccupancyMonitorModel" "place" "I") (by decide +kernel)) (fun _ h9 => h9) rfl dX11_here_1 ?_
  refine lv_aload_n hx hb dX11_here_4 rfl (lv_at hl 0 rfl) ?_
  refine k_get (ci := 11) (v := .int v0.2.2.2.2.2.1) (C := RX11) (T := TX11) (N := 14) hx hb hts hown hz hw (by decide +kernel) 0 rfl rfl 5 (by decide) (hts (.fieldLink RX11 70 "OccupancyMonitorModel" "textLong" "I") (by decide +kernel)) (fun _ h9 => h9) rfl dX11_here_5 ?_
  refine lv_icmp_ge (tgt := 23) hx hb dX11_here_8 (by decide) (fun c1 => ?_) (fun c1 => ?_)
  · have hsp := ift c1 hsp
    refine lv_iconst (v := -1) hx hb dX11_here_23 (by decide) ?_
    have hsp := Option.some.inj hsp
    subst hsp
    have hw : ww A s.heap D [w11 cA a0 v0] H locs := hw
    subst hQ
    exact k_iret hx hb hr hlk hw dX11_here_24
  · have hsp := iff_ c1 hsp
    refine lv_aload_n hx hb dX11_here_11 rfl (lv_at hl 0 rfl) ?_
    refine k_get (ci := 11) (v := .ref a0.2.2.2.1) (C := RX11) (T := TX11) (N := 14) hx hb hts hown hz hw (by decide +kernel) 0 rfl rfl 4 (by decide) (hts (.fieldLink RX11 16 "OccupancyMonitorModel" "text" "[I") (by decide +kernel)) (fun _ h9 => h9) rfl dX11_here_12 ?_
    refine lv_aload_n hx hb dX11_here_15 rfl (lv_at hl 0 rfl) ?_
    refine k_get (ci := 11) (v := .int v0.2.2.2.2.2.2.1) (C := RX11) (T := TX11) (N := 14) hx hb hts hown hz hw (by decide +kernel) 0 rfl rfl 6 (by decide) (hts (.fieldLink RX11 73 "OccupancyMonitorModel" "place" "I") (by decide +kernel)) (fun _ h9 => h9) rfl dX11_here_16 ?_
    obtain ⟨g2, hsp⟩ := grd_of hsp
    refine k_iald hx hb hz hw 3 rfl g2 dX11_here_19 ?_
    refine lv_goto (tgt := 24) hx hb dX11_here_20 (by decide) ?_
    have hsp := Option.some.inj hsp
    subst hsp
    have hw : ww A s.heap D [w11 cA a0 v0] H locs := hw
    subst hQ
    exact k_iret hx hb hr hlk hw dX11_here_24
noncomputable def sX11_isFigure (p1 : Int32) : Option (Int32) := ((sX11_in p1.toInt64 (48 : Int64) (57 : Int64)).bind (fun o1 => (grd (isz o1) (some o1))))
abbrev rX11_isFigure : Room := { frames := 1, cells := 0, slots := 0, locals := 25 }
set_option maxHeartbeats 4000000 in
set_option maxRecDepth 100000 in
theorem mX11_isFigure (l : Launch) (D : va_G) (cA cR : ClassId) (p1 : Int32) (o : Int32) (hsp : sX11_isFigure p1 = some o) : MI l yX11_isFigure wsX11_isFigure rX11_isFigure D cA cR [.int p1] [] (some (.int o)) [] 0 0 := by
  have hsp : ((sX11_in p1.toInt64 (48 : Int64) (57 : Int64)).bind (fun o1 => (grd (isz o1) (some o1)))) = some o := hsp
  refine MI.ofW (cc := cX11_isFigure) (maxL := 1) (ret := (some .boolean)) (by decide) rfl (Nat.le_of_ble_eq_true rfl) ?_
  intro p e s m args below meth c A ls Q H locs hx hb hr hlk hml hown hnm hts hz hA hQ hw hl
  have hl : lv_has ls 1 [(0, .int p1)] := hl
  have hw : ww A s.heap D [] H locs := hw
  refine lv_iload_n hx hb dX11_isFigure_0 rfl (lv_at hl 0 rfl) ?_
  refine lv_i2l hx hb dX11_isFigure_1 rfl ?_
  refine lv_ldc2 hx hb hown (hts (.constantLong RX11 76 48) (by decide +kernel)) dX11_isFigure_2 ?_
  refine lv_ldc2 hx hb hown (hts (.constantLong RX11 78 57) (by decide +kernel)) dX11_isFigure_5 ?_
  obtain ⟨o1, hso1, hsp⟩ := bnd_of hsp
  refine k_callS (nA := 3) (As := [.long p1.toInt64, .long (48 : Int64), .long (57 : Int64)]) (cs := []) (rs := []) (cs1 := []) (bs1 := []) (rest := []) (st1 := [.int o1]) ⟨hx, hb, hml, hown, hts⟩ hz hw hA (mX11_in l D cA cR p1.toInt64 (48 : Int64) (57 : Int64) o1 hso1) gX11_isFigure_X11_in rfl rfl rfl (by decide +kernel) rfl ⟨Nat.le_of_ble_eq_true rfl, Nat.le_of_ble_eq_true rfl⟩ hl.1 rfl (Nat.le_of_ble_eq_true rfl) dX11_isFigure_8 ⟨Nat.le_of_ble_eq_true rfl, Nat.le_of_ble_eq_true rfl⟩ [] [] [] rfl rfl rfl rfl rfl rfl (fun H locs hw => ?_)
  obtain ⟨g2, hsp⟩ := grd_of hsp
  have hsp := Option.some.inj hsp
  subst hsp
  have hw : ww A s.heap D [] H locs := hw
  subst hQ
  exact k_zret (v := o1) hx hb hr hlk g2 hw dX11_isFigure_11
noncomputable def qX11_skips_0 (v0 : V11) : Nat → Int32 → Option (Int32)
  | 0, _ => none
  | n0 + 1, z0_0 => ((sX11_here (v0.1, v0.2.1, v0.2.2.1, v0.2.2.2.1, v0.2.2.2.2.1, v0.2.2.2.2.2.1, z0_0, v0.2.2.2.2.2.2.2.1, v0.2.2.2.2.2.2.2.2.1, v0.2.2.2.2.2.2.2.2.2.1, v0.2.2.2.2.2.2.2.2.2.2.1, v0.2.2.2.2.2.2.2.2.2.2.2.1, v0.2.2.2.2.2.2.2.2.2.2.2.2.1, v0.2.2.2.2.2.2.2.2.2.2.2.2.2)).bind (fun o6 => (if o6 = (32 : Int32) then (qX11_skips_0 v0 n0 (z0_0 + (1 : Int32))) else (some z0_0))))
noncomputable def sX11_skips (N : Nat) (v0 : V11) : Option (V11) := ((qX11_skips_0 v0 N v0.2.2.2.2.2.2.1).bind (fun o5 => (some (v0.1, v0.2.1, v0.2.2.1, v0.2.2.2.1, v0.2.2.2.2.1, v0.2.2.2.2.2.1, o5, v0.2.2.2.2.2.2.2.1, v0.2.2.2.2.2.2.2.2.1, v0.2.2.2.2.2.2.2.2.2.1, v0.2.2.2.2.2.2.2.2.2.2.1, v0.2.2.2.2.2.2.2.2.2.2.2.1, v0.2.2.2.2.2.2.2.2.2.2.2.2.1, v0.2.2.2.2.2.2.2.2.2.2.2.2.2))))
abbrev rX11_skips : Room := { frames := 1, cells := 0, slots := 0, locals := 20 }
set_option maxHeartbeats 4000000 in
set_option maxRecDepth 100000 in
theorem mX11_skips (l : Launch) (D : va_G) (cA cR : ClassId) (N : Nat) (a0 : A11) (v0 : V11) (o : V11) (hsp : sX11_skips N v0 = some o) : MI l yX11_skips wsX11_skips rX11_skips D cA cR [.ref a0.1] [w11 cA a0 v0] none [w11 cA a0 o] 0 0 := by
  have hsp : ((qX11_skips_0 v0 N v0.2.2.2.2.2.2.1).bind (fun o5 => (some (v0.1, v0.2.1, v0.2.2.1, v0.2.2.2.1, v0.2.2.2.2.1, v0.2.2.2.2.2.1, o5, v0.2.2.2.2.2.2.2.1, v0.2.2.2.2.2.2.2.2.1, v0.2.2.2.2.2.2.2.2.2.1, v0.2.2.2.2.2.2.2.2.2.2.1, v0.2.2.2.2.2.2.2.2.2.2.2.1, v0.2.2.2.2.2.2.2.2.2.2.2.2.1, v0.2.2.2.2.2.2.2.2.2.2.2.2.2)))) = some o := hsp
  refine MI.ofW (cc := cX11_skips) (maxL := 1) (ret := none) (by decide) rfl (Nat.le_of_ble_eq_true rfl) ?_
  intro p e s m args below meth c A ls Q H locs hx hb hr hlk hml hown hnm hts hz hA hQ hw hl
  have hl : lv_has ls 1 [(0, .ref a0.1)] := hl
  have hw : ww A s.heap D [[(a0.1, .inr (11, [.ref a0.2.1, .ref a0.2.2.1, .int v0.2.2.1, .int v0.2.2.2.1, .ref a0.2.2.2.1, .int v0.2.2.2.2.2.1, .int v0.2.2.2.2.2.2.1, .ref a0.2.2.2.2.1, .int v0.2.2.2.2.2.2.2.2.1, .int v0.2.2.2.2.2.2.2.2.2.1, .int v0.2.2.2.2.2.2.2.2.2.2.1, .int v0.2.2.2.2.2.2.2.2.2.2.2.1, .ref a0.2.2.2.2.2, .int v0.2.2.2.2.2.2.2.2.2.2.2.2.2]))], [(a0.2.1, .inl (cA, v0.1.1, .inl v0.1.2))], [(a0.2.2.1, .inl (cA, v0.2.1.1, .inl v0.2.1.2))], [(a0.2.2.2.1, .inl (cA, v0.2.2.2.2.1.1, .inl v0.2.2.2.2.1.2))], [(a0.2.2.2.2.1, .inl (cA, v0.2.2.2.2.2.2.2.1.1, .inl v0.2.2.2.2.2.2.2.1.2))], [(a0.2.2.2.2.2, .inl (cA, v0.2.2.2.2.2.2.2.2.2.2.2.2.1.1, .inl v0.2.2.2.2.2.2.2.2.2.2.2.2.1.2))]] H locs := hw
  have L0 : ∀ (n0 : Nat) (z0_0 : Int32) (o5 : Int32), qX11_skips_0 v0 n0 z0_0 = some o5 → ∀ (H : Heap) (locs : List Loc) (ls : Array Slot), ww A s.heap D [[(a0.1, .inr (11, [.ref a0.2.1, .ref a0.2.2.1, .int v0.2.2.1, .int v0.2.2.2.1, .ref a0.2.2.2.1, .int v0.2.2.2.2.2.1, .int z0_0, .ref a0.2.2.2.2.1, .int v0.2.2.2.2.2.2.2.2.1, .int v0.2.2.2.2.2.2.2.2.2.1, .int v0.2.2.2.2.2.2.2.2.2.2.1, .int v0.2.2.2.2.2.2.2.2.2.2.2.1, .ref a0.2.2.2.2.2, .int v0.2.2.2.2.2.2.2.2.2.2.2.2.2]))], [(a0.2.1, .inl (cA, v0.1.1, .inl v0.1.2))], [(a0.2.2.1, .inl (cA, v0.2.1.1, .inl v0.2.1.2))], [(a0.2.2.2.1, .inl (cA, v0.2.2.2.2.1.1, .inl v0.2.2.2.2.1.2))], [(a0.2.2.2.2.1, .inl (cA, v0.2.2.2.2.2.2.2.1.1, .inl v0.2.2.2.2.2.2.2.1.2))], [(a0.2.2.2.2.2, .inl (cA, v0.2.2.2.2.2.2.2.2.2.2.2.2.1.1, .inl v0.2.2.2.2.2.2.2.2.2.2.2.2.1.2))]] H locs → lv_has ls 1 [(0, .ref a0.1)] → (∀ (y22 : Int32), o5 = y22 → ∀ (H : Heap) (locs : List Loc) (ls : Array Slot), ww A s.heap D [[(a0.1, .inr (11, [.ref a0.2.1, .ref a0.2.2.1, .int v0.2.2.1, .int v0.2.2.2.1, .ref a0.2.2.2.1, .int v0.2.2.2.2.2.1, .int y22, .ref a0.2.2.2.2.1, .int v0.2.2.2.2.2.2.2.2.1, .int v0.2.2.2.2.2.2.2.2.2.1, .int v0.2.2.2.2.2.2.2.2.2.2.1, .int v0.2.2.2.2.2.2.2.2.2.2.2.1, .ref a0.2.2.2.2.2, .int v0.2.2.2.2.2.2.2.2.2.2.2.2.2]))], [(a0.2.1, .inl (cA, v0.1.1, .inl v0.1.2))], [(a0.2.2.1, .inl (cA, v0.2.1.1, .inl v0.2.1.2))], [(a0.2.2.2.1, .inl (cA, v0.2.2.2.2.1.1, .inl v0.2.2.2.2.1.2))], [(a0.2.2.2.2.1, .inl (cA, v0.2.2.2.2.2.2.2.1.1, .inl v0.2.2.2.2.2.2.2.1.2))], [(a0.2.2.2.2.2, .inl (cA, v0.2.2.2.2.2.2.2.2.2.2.2.2.1.1, .inl v0.2.2.2.2.2.2.2.2.2.2.2.2.1.2))]] H locs → lv_has ls 1 [(0, .ref a0.1)] → W p l e rX11_skips s m args below meth c H locs 0 0 Q (F0 m 22 ls [])) → W p l e rX11_skips s m args below meth c H locs 0 0 Q (F0 m 0 ls []) := by
    intro n0
    induction n0 with
    | zero => intro z0_0 o5 hsp; cases hsp
    | succ n0 ih0 =>
      intro z0_0 o5 hsp H locs ls hw hl kx0_22
      have hsp : ((sX11_here (v0.1, v0.2.1, v0.2.2.1, v0.2.2.2.1, v0.2.2.2.2.1, v0.2.2.2.2.2.1, z0_0, v0.2.2.2.2.2.2.2.1, v0.2.2.2.2.2.2.2.2.1, v0.2.2.2.2.2.2.2.2.2.1, v0.2.2.2.2.2.2.2.2.2.2.1, v0.2.2.2.2.2.2.2.2.2.2.2.1, v0.2.2.2.2.2.2.2.2.2.2.2.2.1, v0.2.2.2.2.2.2.2.2.2.2.2.2.2)).bind (fun o6 => (if o6 = (32 : Int32) then (qX11_skips_0 v0 n0 (z0_0 + (1 : Int32))) else (some z0_0)))) = some o5 := hsp
      refine lv_aload_n hx hb dX11_skips_0 rfl (lv_at hl 0 rfl) ?_
      have hw : ww A s.heap D [w11 cA a0 (v0.1, v0.2.1, v0.2.2.1, v0.2.2.2.1, v0.2.2.2.2.1, v0.2.2.2.2.2.1, z0_0, v0.2.2.2.2.2.2.2.1, v0.2.2.2.2.2.2.2.2.1, v0.2.2.2.2.2.2.2.2.2.1, v0.2.2.2.2.2.2.2.2.2.2.1, v0.2.2.2.2.2.2.2.2.2.2.2.1, v0.2.2.2.2.2.2.2.2.2.2.2.2.1, v0.2.2.2.2.2.2.2.2.2.2.2.2.2)] H locs := hw
      obtain ⟨o6, hso6, hsp⟩ := bnd_of hsp
      refine k_callV (ci := 11) (C := RX11) (T := TX11) (N := 14) (nA := 0) (As := []) (cs := [w11 cA a0 (v0.1, v0.2.1, v0.2.2.1, v0.2.2.2.1, v0.2.2.2.2.1, v0.2.2.2.2.2.1, z0_0, v0.2.2.2.2.2.2.2.1, v0.2.2.2.2.2.2.2.2.1, v0.2.2.2.2.2.2.2.2.2.1, v0.2.2.2.2.2.2.2.2.2.2.1, v0.2.2.2.2.2.2.2.2.2.2.2.1, v0.2.2.2.2.2.2.2.2.2.2.2.2.1, v0.2.2.2.2.2.2.2.2.2.2.2.2.2)]) (rs := []) (cs1 := [w11 cA a0 (v0.1, v0.2.1, v0.2.2.1, v0.2.2.2.1, v0.2.2.2.2.1, v0.2.2.2.2.2.1, z0_0, v0.2.2.2.2.2.2.2.1, v0.2.2.2.2.2.2.2.2.1, v0.2.2.2.2.2.2.2.2.2.1, v0.2.2.2.2.2.2.2.2.2.2.1, v0.2.2.2.2.2.2.2.2.2.2.2.1, v0.2.2.2.2.2.2.2.2.2.2.2.2.1, v0.2.2.2.2.2.2.2.2.2.2.2.2.2)]) (bs1 := [w11 cA a0 (v0.1, v0.2.1, v0.2.2.1, v0.2.2.2.1, v0.2.2.2.2.1, v0.2.2.2.2.2.1, z0_0, v0.2.2.2.2.2.2.2.1, v0.2.2.2.2.2.2.2.2.1, v0.2.2.2.2.2.2.2.2.2.1, v0.2.2.2.2.2.2.2.2.2.2.1, v0.2.2.2.2.2.2.2.2.2.2.2.1, v0.2.2.2.2.2.2.2.2.2.2.2.2.1, v0.2.2.2.2.2.2.2.2.2.2.2.2.2)]) (rest := []) (st1 := [.int o6]) ⟨hx, hb, hml, hown, hts⟩ hz hw hA (mX11_here l D cA cR a0 (v0.1, v0.2.1, v0.2.2.1, v0.2.2.2.1, v0.2.2.2.2.1, v0.2.2.2.2.2.1, z0_0, v0.2.2.2.2.2.2.2.1, v0.2.2.2.2.2.2.2.2.1, v0.2.2.2.2.2.2.2.2.2.1, v0.2.2.2.2.2.2.2.2.2.2.1, v0.2.2.2.2.2.2.2.2.2.2.2.1, v0.2.2.2.2.2.2.2.2.2.2.2.2.1, v0.2.2.2.2.2.2.2.2.2.2.2.2.2) o6 hso6) gX11_skips_X11_here rfl rfl rfl (by decide +kernel) rfl ⟨Nat.le_of_ble_eq_true rfl, Nat.le_of_ble_eq_true rfl⟩ rfl rfl hl.1 rfl (Nat.le_of_ble_eq_true rfl) dX11_skips_1 ⟨Nat.le_of_ble_eq_true rfl, Nat.le_of_ble_eq_true rfl⟩ [0] [] [0] rfl rfl rfl rfl rfl rfl (fun H locs hw => ?_)
      have hw : ww A s.heap D [[(a0.1, .inr (11, [.ref a0.2.1, .ref a0.2.2.1, .int v0.2.2.1, .int v0.2.2.2.1, .ref a0.2.2.2.1, .int v0.2.2.2.2.2.1, .int z0_0, .ref a0.2.2.2.2.1, .int v0.2.2.2.2.2.2.2.2.1, .int v0.2.2.2.2.2.2.2.2.2.1, .int v0.2.2.2.2.2.2.2.2.2.2.1, .int v0.2.2.2.2.2.2.2.2.2.2.2.1, .ref a0.2.2.2.2.2, .int v0.2.2.2.2.2.2.2.2.2.2.2.2.2]))], [(a0.2.1, .inl (cA, v0.1.1, .inl v0.1.2))], [(a0.2.2.1, .inl (cA, v0.2.1.1, .inl v0.2.1.2))], [(a0.2.2.2.1, .inl (cA, v0.2.2.2.2.1.1, .inl v0.2.2.2.2.1.2))], [(a0.2.2.2.2.1, .inl (cA, v0.2.2.2.2.2.2.2.1.1, .inl v0.2.2.2.2.2.2.2.1.2))], [(a0.2.2.2.2.2, .inl (cA, v0.2.2.2.2.2.2.2.2.2.2.2.2.1.1, .inl v0.2.2.2.2.2.2.2.2.2.2.2.2.1.2))]] H locs := hw
      refine lv_bipush (v := 32) hx hb dX11_skips_4 (by decide) ?_
      refine lv_icmp_ne (tgt := 22) hx hb dX11_skips_6 (by decide) (fun c7 => ?_) (fun c7 => ?_)
      · have hsp := iff_ c7 hsp
        have hsp := Option.some.inj hsp
        subst hsp
        exact kx0_22 _ rfl _ _ _ hw (lv_sub hl [0] rfl)
      · have hsp := ift c7 hsp
        refine lv_aload_n hx hb dX11_skips_9 rfl (lv_at hl 0 rfl) ?_
        refine lv_dup hx hb dX11_skips_10 rfl ?_
        refine k_get (ci := 11) (v := .int z0_0) (C := RX11) (T := TX11) (N := 14) hx hb hts hown hz hw (by decide +kernel) 0 rfl rfl 6 (by decide) (hts (.fieldLink RX11 73 "OccupancyMonitorModel" "place" "I") (by decide +kernel)) (fun _ h9 => h9) rfl dX11_skips_11 ?_
        refine lv_iconst (v := 1) hx hb dX11_skips_14 (by decide) ?_
        refine lv_iadd hx hb dX11_skips_15 ?_
        refine k_put (ci := 11) (v := .int (z0_0 + (1 : Int32))) (ty := .int) (C := RX11) (T := TX11) (N := 14) (bs1 := [[(a0.1, .inr (11, [.ref a0.2.1, .ref a0.2.2.1, .int v0.2.2.1, .int v0.2.2.2.1, .ref a0.2.2.2.1, .int v0.2.2.2.2.2.1, .int (z0_0 + (1 : Int32)), .ref a0.2.2.2.2.1, .int v0.2.2.2.2.2.2.2.2.1, .int v0.2.2.2.2.2.2.2.2.2.1, .int v0.2.2.2.2.2.2.2.2.2.2.1, .int v0.2.2.2.2.2.2.2.2.2.2.2.1, .ref a0.2.2.2.2.2, .int v0.2.2.2.2.2.2.2.2.2.2.2.2.2]))], [(a0.2.1, .inl (cA, v0.1.1, .inl v0.1.2))], [(a0.2.2.1, .inl (cA, v0.2.1.1, .inl v0.2.1.2))], [(a0.2.2.2.1, .inl (cA, v0.2.2.2.2.1.1, .inl v0.2.2.2.2.1.2))], [(a0.2.2.2.2.1, .inl (cA, v0.2.2.2.2.2.2.2.1.1, .inl v0.2.2.2.2.2.2.2.1.2))], [(a0.2.2.2.2.2, .inl (cA, v0.2.2.2.2.2.2.2.2.2.2.2.2.1.1, .inl v0.2.2.2.2.2.2.2.2.2.2.2.2.1.2))]]) hx hb hts hown hz hw (by decide +kernel) tyX11 tyX11_ok nmX11 0 rfl rfl 6 (by decide) (hts (.fieldLink RX11 73 "OccupancyMonitorModel" "place" "I") (by decide +kernel)) (fun _ h9 => h9) rfl (by decide +kernel) rfl rfl (Nat.le_of_ble_eq_true rfl) dX11_skips_16 rfl (fun H locs hw => ?_)
        refine lv_goto (tgt := 0) hx hb dX11_skips_19 (by decide) ?_
        exact ih0 (z0_0 + (1 : Int32)) _ hsp _ _ _ hw (lv_sub hl [0] rfl) kx0_22
  obtain ⟨o5, hso5, hsp⟩ := bnd_of hsp
  refine L0 N v0.2.2.2.2.2.2.1 _ hso5 _ _ _ hw (lv_sub hl [0] rfl) (fun y22 hy22 H locs ls hw hl => ?_)
  cases hy22
  have hsp := Option.some.inj hsp
  subst hsp
  have hw : ww A s.heap D [w11 cA a0 (v0.1, v0.2.1, v0.2.2.1, v0.2.2.2.1, v0.2.2.2.2.1, v0.2.2.2.2.2.1, o5, v0.2.2.2.2.2.2.2.1, v0.2.2.2.2.2.2.2.2.1, v0.2.2.2.2.2.2.2.2.2.1, v0.2.2.2.2.2.2.2.2.2.2.1, v0.2.2.2.2.2.2.2.2.2.2.2.1, v0.2.2.2.2.2.2.2.2.2.2.2.2.1, v0.2.2.2.2.2.2.2.2.2.2.2.2.2)] H locs := hw
  subst hQ
  exact k_vret hx hb hr hlk hw dX11_skips_22
noncomputable def qX11_number_8 (v0 : V11) : Nat → Int32 → Int32 → Option (Int32 × Int32)
  | 0, _, _ => none
  | n8 + 1, z8_0, z8_1 => ((sX11_here (v0.1, v0.2.1, v0.2.2.1, v0.2.2.2.1, v0.2.2.2.2.1, v0.2.2.2.2.2.1, z8_1, v0.2.2.2.2.2.2.2.1, v0.2.2.2.2.2.2.2.2.1, v0.2.2.2.2.2.2.2.2.2.1, v0.2.2.2.2.2.2.2.2.2.2.1, v0.2.2.2.2.2.2.2.2.2.2.2.1, v0.2.2.2.2.2.2.2.2.2.2.2.2.1, v0.2.2.2.2.2.2.2.2.2.2.2.2.2)).bind (fun o12 => ((sX11_isFigure o12).bind (fun o13 => (if o13 = 0 then (some (z8_0, z8_1)) else (if (2 : Int32) ≤ (z8_1 - v0.2.2.2.2.2.2.1) then (some (z8_0, z8_1)) else ((sX11_here (v0.1, v0.2.1, v0.2.2.1, v0.2.2.2.1, v0.2.2.2.2.1, v0.2.2.2.2.2.1, z8_1, v0.2.2.2.2.2.2.2.1, v0.2.2.2.2.2.2.2.2.1, v0.2.2.2.2.2.2.2.2.2.1, v0.2.2.2.2.2.2.2.2.2.2.1, v0.2.2.2.2.2.2.2.2.2.2.2.1, v0.2.2.2.2.2.2.2.2.2.2.2.2.1, v0.2.2.2.2.2.2.2.2.2.2.2.2.2)).bind (fun o16 => (qX11_number_8 v0 n8 ((((10 : Int32) * z8_0) + o16) - (48 : Int32)) (z8_1 + (1 : Int32)))))))))))
noncomputable def sX11_number (N : Nat) (v0 : V11) (p1 : Int32) (p2 : Int32) : Option (Int32 × V11) := ((qX11_number_8 v0 N (0 : Int32) v0.2.2.2.2.2.2.1).bind (fun o11 => (if o11.2 = v0.2.2.2.2.2.2.1 then (some ((-1 : Int32), (v0.1, v0.2.1, v0.2.2.1, v0.2.2.2.1, v0.2.2.2.2.1, v0.2.2.2.2.2.1, o11.2, v0.2.2.2.2.2.2.2.1, v0.2.2.2.2.2.2.2.2.1, v0.2.2.2.2.2.2.2.2.2.1, v0.2.2.2.2.2.2.2.2.2.2.1, v0.2.2.2.2.2.2.2.2.2.2.2.1, v0.2.2.2.2.2.2.2.2.2.2.2.2.1, v0.2.2.2.2.2.2.2.2.2.2.2.2.2))) else ((sX11_here (v0.1, v0.2.1, v0.2.2.1, v0.2.2.2.1, v0.2.2.2.2.1, v0.2.2.2.2.2.1, o11.2, v0.2.2.2.2.2.2.2.1, v0.2.2.2.2.2.2.2.2.1, v0.2.2.2.2.2.2.2.2.2.1, v0.2.2.2.2.2.2.2.2.2.2.1, v0.2.2.2.2.2.2.2.2.2.2.2.1, v0.2.2.2.2.2.2.2.2.2.2.2.2.1, v0.2.2.2.2.2.2.2.2.2.2.2.2.2)).bind (fun o18 => ((sX11_isFigure o18).bind (fun o19 => (if o19 = 0 then ((sX11_in o11.1.toInt64 p1.toInt64 p2.toInt64).bind (fun o21 => (((if o21 = 0 then (some v0.2.2.2.2.2.2.1) else (some o11.2)) : Option (Int32)).bind (fun j23 => ((sX11_in o11.1.toInt64 p1.toInt64 p2.toInt64).bind (fun o24 => (if o24 = 0 then (some ((-1 : Int32), (v0.1, v0.2.1, v0.2.2.1, v0.2.2.2.1, v0.2.2.2.2.1, v0.2.2.2.2.2.1, j23, v0.2.2.2.2.2.2.2.1, v0.2.2.2.2.2.2.2.2.1, v0.2.2.2.2.2.2.2.2.2.1, v0.2.2.2.2.2.2.2.2.2.2.1, v0.2.2.2.2.2.2.2.2.2.2.2.1, v0.2.2.2.2.2.2.2.2.2.2.2.2.1, v0.2.2.2.2.2.2.2.2.2.2.2.2.2))) else (some (o11.1, (v0.1, v0.2.1, v0.2.2.1, v0.2.2.2.1, v0.2.2.2.2.1, v0.2.2.2.2.2.1, j23, v0.2.2.2.2.2.2.2.1, v0.2.2.2.2.2.2.2.2.1, v0.2.2.2.2.2.2.2.2.2.1, v0.2.2.2.2.2.2.2.2.2.2.1, v0.2.2.2.2.2.2.2.2.2.2.2.1, v0.2.2.2.2.2.2.2.2.2.2.2.2.1, v0.2.2.2.2.2.2.2.2.2.2.2.2.2)))))))))) else (some ((-1 : Int32), (v0.1, v0.2.1, v0.2.2.1, v0.2.2.2.1, v0.2.2.2.2.1, v0.2.2.2.2.2.1, o11.2, v0.2.2.2.2.2.2.2.1, v0.2.2.2.2.2.2.2.2.1, v0.2.2.2.2.2.2.2.2.2.1, v0.2.2.2.2.2.2.2.2.2.2.1, v0.2.2.2.2.2.2.2.2.2.2.2.1, v0.2.2.2.2.2.2.2.2.2.2.2.2.1, v0.2.2.2.2.2.2.2.2.2.2.2.2.2)))))))))))
abbrev rX11_number : Room := { frames := 2, cells := 0, slots := 0, locals := 45 }
set_option maxHeartbeats 4000000 in
set_option maxRecDepth 100000 in
theorem mX11_number (l : Launch) (D : va_G) (cA cR : ClassId) (N : Nat) (a0 : A11) (v0 : V11) (p1 : Int32) (p2 : Int32) (o : Int32 × V11) (hsp : sX11_number N v0 p1 p2 = some o) : MI l yX11_number wsX11_number rX11_number D cA cR [.ref a0.1, .int p1, .int p2] [w11 cA a0 v0] (some (.int o.1)) [w11 cA a0 o.2] 0 0 := by
  have hsp : ((qX11_number_8 v0 N (0 : Int32) v0.2.2.2.2.2.2.1).bind (fun o11 => (if o11.2 = v0.2.2.2.2.2.2.1 then (some ((-1 : Int32), (v0.1, v0.2.1, v0.2.2.1, v0.2.2.2.1, v0.2.2.2.2.1, v0.2.2.2.2.2.1, o11.2, v0.2.2.2.2.2.2.2.1, v0.2.2.2.2.2.2.2.2.1, v0.2.2.2.2.2.2.2.2.2.1, v0.2.2.2.2.2.2.2.2.2.2.1, v0.2.2.2.2.2.2.2.2.2.2.2.1, v0.2.2.2.2.2.2.2.2.2.2.2.2.1, v0.2.2.2.2.2.2.2.2.2.2.2.2.2))) else ((sX11_here (v0.1, v0.2.1, v0.2.2.1, v0.2.2.2.1, v0.2.2.2.2.1, v0.2.2.2.2.2.1, o11.2, v0.2.2.2.2.2.2.2.1, v0.2.2.2.2.2.2.2.2.1, v0.2.2.2.2.2.2.2.2.2.1, v0.2.2.2.2.2.2.2.2.2.2.1, v0.2.2.2.2.2.2.2.2.2.2.2.1, v0.2.2.2.2.2.2.2.2.2.2.2.2.1, v0.2.2.2.2.2.2.2.2.2.2.2.2.2)).bind (fun o18 => ((sX11_isFigure o18).bind (fun o19 => (if o19 = 0 then ((sX11_in o11.1.toInt64 p1.toInt64 p2.toInt64).bind (fun o21 => (((if o21 = 0 then (some v0.2.2.2.2.2.2.1) else (some o11.2)) : Option (Int32)).bind (fun j23 => ((sX11_in o11.1.toInt64 p1.toInt64 p2.toInt64).bind (fun o24 => (if o24 = 0 then (some ((-1 : Int32), (v0.1, v0.2.1, v0.2.2.1, v0.2.2.2.1, v0.2.2.2.2.1, v0.2.2.2.2.2.1, j23, v0.2.2.2.2.2.2.2.1, v0.2.2.2.2.2.2.2.2.1, v0.2.2.2.2.2.2.2.2.2.1, v0.2.2.2.2.2.2.2.2.2.2.1, v0.2.2.2.2.2.2.2.2.2.2.2.1, v0.2.2.2.2.2.2.2.2.2.2.2.2.1, v0.2.2.2.2.2.2.2.2.2.2.2.2.2))) else (some (o11.1, (v0.1, v0.2.1, v0.2.2.1, v0.2.2.2.1, v0.2.2.2.2.1, v0.2.2.2.2.2.1, j23, v0.2.2.2.2.2.2.2.1, v0.2.2.2.2.2.2.2.2.1, v0.2.2.2.2.2.2.2.2.2.1, v0.2.2.2.2.2.2.2.2.2.2.1, v0.2.2.2.2.2.2.2.2.2.2.2.1, v0.2.2.2.2.2.2.2.2.2.2.2.2.1, v0.2.2.2.2.2.2.2.2.2.2.2.2.2)))))))))) else (some ((-1 : Int32), (v0.1, v0.2.1, v0.2.2.1, v0.2.2.2.1, v0.2.2.2.2.1, v0.2.2.2.2.2.1, o11.2, v0.2.2.2.2.2.2.2.1, v0.2.2.2.2.2.2.2.2.1, v0.2.2.2.2.2.2.2.2.2.1, v0.2.2.2.2.2.2.2.2.2.2.1, v0.2.2.2.2.2.2.2.2.2.2.2.1, v0.2.2.2.2.2.2.2.2.2.2.2.2.1, v0.2.2.2.2.2.2.2.2.2.2.2.2.2))))))))))) = some o := hsp
  refine MI.ofW (cc := cX11_number) (maxL := 5) (ret := (some .int)) (by decide) rfl (Nat.le_of_ble_eq_true rfl) ?_
  intro p e s m args below meth c A ls Q H locs hx hb hr hlk hml hown hnm hts hz hA hQ hw hl
  have hl : lv_has ls 5 [(0, .ref a0.1), (1, .int p1), (2, .int p2)] := hl
  have hw : ww A s.heap D [[(a0.1, .inr (11, [.ref a0.2.1, .ref a0.2.2.1, .int v0.2.2.1, .int v0.2.2.2.1, .ref a0.2.2.2.1, .int v0.2.2.2.2.2.1, .int v0.2.2.2.2.2.2.1, .ref a0.2.2.2.2.1, .int v0.2.2.2.2.2.2.2.2.1, .int v0.2.2.2.2.2.2.2.2.2.1, .int v0.2.2.2.2.2.2.2.2.2.2.1, .int v0.2.2.2.2.2.2.2.2.2.2.2.1, .ref a0.2.2.2.2.2, .int v0.2.2.2.2.2.2.2.2.2.2.2.2.2]))], [(a0.2.1, .inl (cA, v0.1.1, .inl v0.1.2))], [(a0.2.2.1, .inl (cA, v0.2.1.1, .inl v0.2.1.2))], [(a0.2.2.2.1, .inl (cA, v0.2.2.2.2.1.1, .inl v0.2.2.2.2.1.2))], [(a0.2.2.2.2.1, .inl (cA, v0.2.2.2.2.2.2.2.1.1, .inl v0.2.2.2.2.2.2.2.1.2))], [(a0.2.2.2.2.2, .inl (cA, v0.2.2.2.2.2.2.2.2.2.2.2.2.1.1, .inl v0.2.2.2.2.2.2.2.2.2.2.2.2.1.2))]] H locs := hw
  refine lv_aload_n hx hb dX11_number_0 rfl (lv_at hl 0 rfl) ?_
  refine k_get (ci := 11) (v := .int v0.2.2.2.2.2.2.1) (C := RX11) (T := TX11) (N := 14) hx hb hts hown hz hw (by decide +kernel) 0 rfl rfl 6 (by decide) (hts (.fieldLink RX11 73 "OccupancyMonitorModel" "place" "I") (by decide +kernel)) (fun _ h9 => h9) rfl dX11_number_1 ?_
  refine lv_istore_n (lv' := [(3, .int v0.2.2.2.2.2.2.1), (0, .ref a0.1), (1, .int p1), (2, .int p2)]) hx hb dX11_number_4 rfl hl (by decide) rfl (fun ls hl => ?_)
  refine lv_iconst (v := 0) hx hb dX11_number_5 (by decide) ?_
  refine lv_istore (lv' := [(4, .int (0 : Int32)), (3, .int v0.2.2.2.2.2.2.1), (0, .ref a0.1), (1, .int p1), (2, .int p2)]) hx hb dX11_number_6 hl (by decide) rfl (fun ls hl => ?_)
  have L8 : ∀ (n8 : Nat) (z8_0 : Int32) (z8_1 : Int32) (o11 : Int32 × Int32), qX11_number_8 v0 n8 z8_0 z8_1 = some o11 → ∀ (H : Heap) (locs : List Loc) (ls : Array Slot), ww A s.heap D [[(a0.1, .inr (11, [.ref a0.2.1, .ref a0.2.2.1, .int v0.2.2.1, .int v0.2.2.2.1, .ref a0.2.2.2.1, .int v0.2.2.2.2.2.1, .int z8_1, .ref a0.2.2.2.2.1, .int v0.2.2.2.2.2.2.2.2.1, .int v0.2.2.2.2.2.2.2.2.2.1, .int v0.2.2.2.2.2.2.2.2.2.2.1, .int v0.2.2.2.2.2.2.2.2.2.2.2.1, .ref a0.2.2.2.2.2, .int v0.2.2.2.2.2.2.2.2.2.2.2.2.2]))], [(a0.2.1, .inl (cA, v0.1.1, .inl v0.1.2))], [(a0.2.2.1, .inl (cA, v0.2.1.1, .inl v0.2.1.2))], [(a0.2.2.2.1, .inl (cA, v0.2.2.2.2.1.1, .inl v0.2.2.2.2.1.2))], [(a0.2.2.2.2.1, .inl (cA, v0.2.2.2.2.2.2.2.1.1, .inl v0.2.2.2.2.2.2.2.1.2))], [(a0.2.2.2.2.2, .inl (cA, v0.2.2.2.2.2.2.2.2.2.2.2.2.1.1, .inl v0.2.2.2.2.2.2.2.2.2.2.2.2.1.2))]] H locs → lv_has ls 5 [(0, .ref a0.1), (1, .int p1), (2, .int p2), (3, .int v0.2.2.2.2.2.2.1), (4, .int z8_0)] → (∀ (y56 : Int32 × Int32), o11 = y56 → ∀ (H : Heap) (locs : List Loc) (ls : Array Slot), ww A s.heap D [[(a0.1, .inr (11, [.ref a0.2.1, .ref a0.2.2.1, .int v0.2.2.1, .int v0.2.2.2.1, .ref a0.2.2.2.1, .int v0.2.2.2.2.2.1, .int y56.2, .ref a0.2.2.2.2.1, .int v0.2.2.2.2.2.2.2.2.1, .int v0.2.2.2.2.2.2.2.2.2.1, .int v0.2.2.2.2.2.2.2.2.2.2.1, .int v0.2.2.2.2.2.2.2.2.2.2.2.1, .ref a0.2.2.2.2.2, .int v0.2.2.2.2.2.2.2.2.2.2.2.2.2]))], [(a0.2.1, .inl (cA, v0.1.1, .inl v0.1.2))], [(a0.2.2.1, .inl (cA, v0.2.1.1, .inl v0.2.1.2))], [(a0.2.2.2.1, .inl (cA, v0.2.2.2.2.1.1, .inl v0.2.2.2.2.1.2))], [(a0.2.2.2.2.1, .inl (cA, v0.2.2.2.2.2.2.2.1.1, .inl v0.2.2.2.2.2.2.2.1.2))], [(a0.2.2.2.2.2, .inl (cA, v0.2.2.2.2.2.2.2.2.2.2.2.2.1.1, .inl v0.2.2.2.2.2.2.2.2.2.2.2.2.1.2))]] H locs → lv_has ls 5 [(0, .ref a0.1), (1, .int p1), (2, .int p2), (3, .int v0.2.2.2.2.2.2.1), (4, .int y56.1)] → W p l e rX11_number s m args below meth c H locs 0 0 Q (F0 m 56 ls [])) → W p l e rX11_number s m args below meth c H locs 0 0 Q (F0 m 8 ls []) := by
    intro n8
    induction n8 with
    | zero => intro z8_0 z8_1 o11 hsp; cases hsp
    | succ n8 ih8 =>
      intro z8_0 z8_1 o11 hsp H locs ls hw hl kx8_56
      have hsp : ((sX11_here (v0.1, v0.2.1, v0.2.2.1, v0.2.2.2.1, v0.2.2.2.2.1, v0.2.2.2.2.2.1, z8_1, v0.2.2.2.2.2.2.2.1, v0.2.2.2.2.2.2.2.2.1, v0.2.2.2.2.2.2.2.2.2.1, v0.2.2.2.2.2.2.2.2.2.2.1, v0.2.2.2.2.2.2.2.2.2.2.2.1, v0.2.2.2.2.2.2.2.2.2.2.2.2.1, v0.2.2.2.2.2.2.2.2.2.2.2.2.2)).bind (fun o12 => ((sX11_isFigure o12).bind (fun o13 => (if o13 = 0 then (some (z8_0, z8_1)) else (if (2 : Int32) ≤ (z8_1 - v0.2.2.2.2.2.2.1) then (some (z8_0, z8_1)) else ((sX11_here (v0.1, v0.2.1, v0.2.2.1, v0.2.2.2.1, v0.2.2.2.2.1, v0.2.2.2.2.2.1, z8_1, v0.2.2.2.2.2.2.2.1, v0.2.2.2.2.2.2.2.2.1, v0.2.2.2.2.2.2.2.2.2.1, v0.2.2.2.2.2.2.2.2.2.2.1, v0.2.2.2.2.2.2.2.2.2.2.2.1, v0.2.2.2.2.2.2.2.2.2.2.2.2.1, v0.2.2.2.2.2.2.2.2.2.2.2.2.2)).bind (fun o16 => (qX11_number_8 v0 n8 ((((10 : Int32) * z8_0) + o16) - (48 : Int32)) (z8_1 + (1 : Int32))))))))))) = some o11 := hsp
      refine lv_aload_n hx hb dX11_number_8 rfl (lv_at hl 0 rfl) ?_
      have hw : ww A s.heap D [w11 cA a0 (v0.1, v0.2.1, v0.2.2.1, v0.2.2.2.1, v0.2.2.2.2.1, v0.2.2.2.2.2.1, z8_1, v0.2.2.2.2.2.2.2.1, v0.2.2.2.2.2.2.2.2.1, v0.2.2.2.2.2.2.2.2.2.1, v0.2.2.2.2.2.2.2.2.2.2.1, v0.2.2.2.2.2.2.2.2.2.2.2.1, v0.2.2.2.2.2.2.2.2.2.2.2.2.1, v0.2.2.2.2.2.2.2.2.2.2.2.2.2)] H locs := hw
      obtain ⟨o12, hso12, hsp⟩ := bnd_of hsp
      refine k_callV (ci := 11) (C := RX11) (T := TX11) (N := 14) (nA := 0) (As := []) (cs := [w11 cA a0 (v0.1, v0.2.1, v0.2.2.1, v0.2.2.2.1, v0.2.2.2.2.1, v0.2.2.2.2.2.1, z8_1, v0.2.2.2.2.2.2.2.1, v0.2.2.2.2.2.2.2.2.1, v0.2.2.2.2.2.2.2.2.2.1, v0.2.2.2.2.2.2.2.2.2.2.1, v0.2.2.2.2.2.2.2.2.2.2.2.1, v0.2.2.2.2.2.2.2.2.2.2.2.2.1, v0.2.2.2.2.2.2.2.2.2.2.2.2.2)]) (rs := []) (cs1 := [w11 cA a0 (v0.1, v0.2.1, v0.2.2.1, v0.2.2.2.1, v0.2.2.2.2.1, v0.2.2.2.2.2.1, z8_1, v0.2.2.2.2.2.2.2.1, v0.2.2.2.2.2.2.2.2.1, v0.2.2.2.2.2.2.2.2.2.1, v0.2.2.2.2.2.2.2.2.2.2.1, v0.2.2.2.2.2.2.2.2.2.2.2.1, v0.2.2.2.2.2.2.2.2.2.2.2.2.1, v0.2.2.2.2.2.2.2.2.2.2.2.2.2)]) (bs1 := [w11 cA a0 (v0.1, v0.2.1, v0.2.2.1, v0.2.2.2.1, v0.2.2.2.2.1, v0.2.2.2.2.2.1, z8_1, v0.2.2.2.2.2.2.2.1, v0.2.2.2.2.2.2.2.2.1, v0.2.2.2.2.2.2.2.2.2.1, v0.2.2.2.2.2.2.2.2.2.2.1, v0.2.2.2.2.2.2.2.2.2.2.2.1, v0.2.2.2.2.2.2.2.2.2.2.2.2.1, v0.2.2.2.2.2.2.2.2.2.2.2.2.2)]) (rest := []) (st1 := [.int o12]) ⟨hx, hb, hml, hown, hts⟩ hz hw hA (mX11_here l D cA cR a0 (v0.1, v0.2.1, v0.2.2.1, v0.2.2.2.1, v0.2.2.2.2.1, v0.2.2.2.2.2.1, z8_1, v0.2.2.2.2.2.2.2.1, v0.2.2.2.2.2.2.2.2.1, v0.2.2.2.2.2.2.2.2.2.1, v0.2.2.2.2.2.2.2.2.2.2.1, v0.2.2.2.2.2.2.2.2.2.2.2.1, v0.2.2.2.2.2.2.2.2.2.2.2.2.1, v0.2.2.2.2.2.2.2.2.2.2.2.2.2) o12 hso12) gX11_number_X11_here rfl rfl rfl (by decide +kernel) rfl ⟨Nat.le_of_ble_eq_true rfl, Nat.le_of_ble_eq_true rfl⟩ rfl rfl hl.1 rfl (Nat.le_of_ble_eq_true rfl) dX11_number_9 ⟨Nat.le_of_ble_eq_true rfl, Nat.le_of_ble_eq_true rfl⟩ [0] [] [0] rfl rfl rfl rfl rfl rfl (fun H locs hw => ?_)
      have hw : ww A s.heap D [[(a0.1, .inr (11, [.ref a0.2.1, .ref a0.2.2.1, .int v0.2.2.1, .int v0.2.2.2.1, .ref a0.2.2.2.1, .int v0.2.2.2.2.2.1, .int z8_1, .ref a0.2.2.2.2.1, .int v0.2.2.2.2.2.2.2.2.1, .int v0.2.2.2.2.2.2.2.2.2.1, .int v0.2.2.2.2.2.2.2.2.2.2.1, .int v0.2.2.2.2.2.2.2.2.2.2.2.1, .ref a0.2.2.2.2.2, .int v0.2.2.2.2.2.2.2.2.2.2.2.2.2]))], [(a0.2.1, .inl (cA, v0.1.1, .inl v0.1.2))], [(a0.2.2.1, .inl (cA, v0.2.1.1, .inl v0.2.1.2))], [(a0.2.2.2.1, .inl (cA, v0.2.2.2.2.1.1, .inl v0.2.2.2.2.1.2))], [(a0.2.2.2.2.1, .inl (cA, v0.2.2.2.2.2.2.2.1.1, .inl v0.2.2.2.2.2.2.2.1.2))], [(a0.2.2.2.2.2, .inl (cA, v0.2.2.2.2.2.2.2.2.2.2.2.2.1.1, .inl v0.2.2.2.2.2.2.2.2.2.2.2.2.1.2))]] H locs := hw
      obtain ⟨o13, hso13, hsp⟩ := bnd_of hsp
      refine k_callS (nA := 1) (As := [.int o12]) (cs := []) (rs := [[(a0.1, .inr (11, [.ref a0.2.1, .ref a0.2.2.1, .int v0.2.2.1, .int v0.2.2.2.1, .ref a0.2.2.2.1, .int v0.2.2.2.2.2.1, .int z8_1, .ref a0.2.2.2.2.1, .int v0.2.2.2.2.2.2.2.2.1, .int v0.2.2.2.2.2.2.2.2.2.1, .int v0.2.2.2.2.2.2.2.2.2.2.1, .int v0.2.2.2.2.2.2.2.2.2.2.2.1, .ref a0.2.2.2.2.2, .int v0.2.2.2.2.2.2.2.2.2.2.2.2.2]))], [(a0.2.1, .inl (cA, v0.1.1, .inl v0.1.2))], [(a0.2.2.1, .inl (cA, v0.2.1.1, .inl v0.2.1.2))], [(a0.2.2.2.1, .inl (cA, v0.2.2.2.2.1.1, .inl v0.2.2.2.2.1.2))], [(a0.2.2.2.2.1, .inl (cA, v0.2.2.2.2.2.2.2.1.1, .inl v0.2.2.2.2.2.2.2.1.2))], [(a0.2.2.2.2.2, .inl (cA, v0.2.2.2.2.2.2.2.2.2.2.2.2.1.1, .inl v0.2.2.2.2.2.2.2.2.2.2.2.2.1.2))]]) (cs1 := []) (bs1 := [[(a0.1, .inr (11, [.ref a0.2.1, .ref a0.2.2.1, .int v0.2.2.1, .int v0.2.2.2.1, .ref a0.2.2.2.1, .int v0.2.2.2.2.2.1, .int z8_1, .ref a0.2.2.2.2.1, .int v0.2.2.2.2.2.2.2.2.1, .int v0.2.2.2.2.2.2.2.2.2.1, .int v0.2.2.2.2.2.2.2.2.2.2.1, .int v0.2.2.2.2.2.2.2.2.2.2.2.1, .ref a0.2.2.2.2.2, .int v0.2.2.2.2.2.2.2.2.2.2.2.2.2]))], [(a0.2.1, .inl (cA, v0.1.1, .inl v0.1.2))], [(a0.2.2.1, .inl (cA, v0.2.1.1, .inl v0.2.1.2))], [(a0.2.2.2.1, .inl (cA, v0.2.2.2.2.1.1, .inl v0.2.2.2.2.1.2))], [(a0.2.2.2.2.1, .inl (cA, v0.2.2.2.2.2.2.2.1.1, .inl v0.2.2.2.2.2.2.2.1.2))], [(a0.2.2.2.2.2, .inl (cA, v0.2.2.2.2.2.2.2.2.2.2.2.2.1.1, .inl v0.2.2.2.2.2.2.2.2.2.2.2.2.1.2))]]) (rest := []) (st1 := [.int o13]) ⟨hx, hb, hml, hown, hts⟩ hz hw hA (mX11_isFigure l D cA cR o12 o13 hso13) gX11_number_X11_isFigure rfl rfl rfl (by decide +kernel) rfl ⟨Nat.le_of_ble_eq_true rfl, Nat.le_of_ble_eq_true rfl⟩ hl.1 rfl (Nat.le_of_ble_eq_true rfl) dX11_number_12 ⟨Nat.le_of_ble_eq_true rfl, Nat.le_of_ble_eq_true rfl⟩ [] [0, 1, 2, 3, 4, 5] [0, 1, 2, 3, 4, 5] rfl rfl rfl rfl rfl rfl (fun H locs hw => ?_)
      refine lv_if_eq (tgt := 56) hx hb dX11_number_15 (by decide) (fun c14 => ?_) (fun c14 => ?_)
      · have hsp := ift c14 hsp
        have hsp := Option.some.inj hsp
        subst hsp
        exact kx8_56 _ rfl _ _ _ hw (lv_sub hl [0, 1, 2, 3, 4] rfl)
      · have hsp := iff_ c14 hsp
        refine lv_aload_n hx hb dX11_number_18 rfl (lv_at hl 0 rfl) ?_
        refine k_get (ci := 11) (v := .int z8_1) (C := RX11) (T := TX11) (N := 14) hx hb hts hown hz hw (by decide +kernel) 0 rfl rfl 6 (by decide) (hts (.fieldLink RX11 73 "OccupancyMonitorModel" "place" "I") (by decide +kernel)) (fun _ h9 => h9) rfl dX11_number_19 ?_
        refine lv_iload_n hx hb dX11_number_22 rfl (lv_at hl 3 rfl) ?_
        refine lv_isub hx hb dX11_number_23 ?_
        refine lv_iconst (v := 2) hx hb dX11_number_24 (by decide) ?_
        refine lv_icmp_ge (tgt := 56) hx hb dX11_number_25 (by decide) (fun c15 => ?_) (fun c15 => ?_)
        · have hsp := ift c15 hsp
          have hsp := Option.some.inj hsp
          subst hsp
          exact kx8_56 _ rfl _ _ _ hw (lv_sub hl [0, 1, 2, 3, 4] rfl)
        · have hsp := iff_ c15 hsp
          refine lv_bipush (v := 10) hx hb dX11_number_28 (by decide) ?_
          refine lv_iload hx hb dX11_number_30 (lv_at hl 4 rfl) ?_
          refine lv_imul hx hb dX11_number_32 ?_
          refine lv_aload_n hx hb dX11_number_33 rfl (lv_at hl 0 rfl) ?_
          have hw : ww A s.heap D [w11 cA a0 (v0.1, v0.2.1, v0.2.2.1, v0.2.2.2.1, v0.2.2.2.2.1, v0.2.2.2.2.2.1, z8_1, v0.2.2.2.2.2.2.2.1, v0.2.2.2.2.2.2.2.2.1, v0.2.2.2.2.2.2.2.2.2.1, v0.2.2.2.2.2.2.2.2.2.2.1, v0.2.2.2.2.2.2.2.2.2.2.2.1, v0.2.2.2.2.2.2.2.2.2.2.2.2.1, v0.2.2.2.2.2.2.2.2.2.2.2.2.2)] H locs := hw
          obtain ⟨o16, hso16, hsp⟩ := bnd_of hsp
          refine k_callV (ci := 11) (C := RX11) (T := TX11) (N := 14) (nA := 0) (As := []) (cs := [w11 cA a0 (v0.1, v0.2.1, v0.2.2.1, v0.2.2.2.1, v0.2.2.2.2.1, v0.2.2.2.2.2.1, z8_1, v0.2.2.2.2.2.2.2.1, v0.2.2.2.2.2.2.2.2.1, v0.2.2.2.2.2.2.2.2.2.1, v0.2.2.2.2.2.2.2.2.2.2.1, v0.2.2.2.2.2.2.2.2.2.2.2.1, v0.2.2.2.2.2.2.2.2.2.2.2.2.1, v0.2.2.2.2.2.2.2.2.2.2.2.2.2)]) (rs := []) (cs1 := [w11 cA a0 (v0.1, v0.2.1, v0.2.2.1, v0.2.2.2.1, v0.2.2.2.2.1, v0.2.2.2.2.2.1, z8_1, v0.2.2.2.2.2.2.2.1, v0.2.2.2.2.2.2.2.2.1, v0.2.2.2.2.2.2.2.2.2.1, v0.2.2.2.2.2.2.2.2.2.2.1, v0.2.2.2.2.2.2.2.2.2.2.2.1, v0.2.2.2.2.2.2.2.2.2.2.2.2.1, v0.2.2.2.2.2.2.2.2.2.2.2.2.2)]) (bs1 := [w11 cA a0 (v0.1, v0.2.1, v0.2.2.1, v0.2.2.2.1, v0.2.2.2.2.1, v0.2.2.2.2.2.1, z8_1, v0.2.2.2.2.2.2.2.1, v0.2.2.2.2.2.2.2.2.1, v0.2.2.2.2.2.2.2.2.2.1, v0.2.2.2.2.2.2.2.2.2.2.1, v0.2.2.2.2.2.2.2.2.2.2.2.1, v0.2.2.2.2.2.2.2.2.2.2.2.2.1, v0.2.2.2.2.2.2.2.2.2.2.2.2.2)]) (rest := [.int ((10 : Int32) * z8_0)]) (st1 := [.int o16, .int ((10 : Int32) * z8_0)]) ⟨hx, hb, hml, hown, hts⟩ hz hw hA (mX11_here l D cA cR a0 (v0.1, v0.2.1, v0.2.2.1, v0.2.2.2.1, v0.2.2.2.2.1, v0.2.2.2.2.2.1, z8_1, v0.2.2.2.2.2.2.2.1, v0.2.2.2.2.2.2.2.2.1, v0.2.2.2.2.2.2.2.2.2.1, v0.2.2.2.2.2.2.2.2.2.2.1, v0.2.2.2.2.2.2.2.2.2.2.2.1, v0.2.2.2.2.2.2.2.2.2.2.2.2.1, v0.2.2.2.2.2.2.2.2.2.2.2.2.2) o16 hso16) gX11_number_X11_here rfl rfl rfl (by decide +kernel) rfl ⟨Nat.le_of_ble_eq_true rfl, Nat.le_of_ble_eq_true rfl⟩ rfl rfl hl.1 rfl (Nat.le_of_ble_eq_true rfl) dX11_number_34 ⟨Nat.le_of_ble_eq_true rfl, Nat.le_of_ble_eq_true rfl⟩ [0] [] [0] rfl rfl rfl rfl rfl rfl (fun H locs hw => ?_)
          have hw : ww A s.heap D [[(a0.1, .inr (11, [.ref a0.2.1, .ref a0.2.2.1, .int v0.2.2.1, .int v0.2.2.2.1, .ref a0.2.2.2.1, .int v0.2.2.2.2.2.1, .int z8_1, .ref a0.2.2.2.2.1, .int v0.2.2.2.2.2.2.2.2.1, .int v0.2.2.2.2.2.2.2.2.2.1, .int v0.2.2.2.2.2.2.2.2.2.2.1, .int v0.2.2.2.2.2.2.2.2.2.2.2.1, .ref a0.2.2.2.2.2, .int v0.2.2.2.2.2.2.2.2.2.2.2.2.2]))], [(a0.2.1, .inl (cA, v0.1.1, .inl v0.1.2))], [(a0.2.2.1, .inl (cA, v0.2.1.1, .inl v0.2.1.2))], [(a0.2.2.2.1, .inl (cA, v0.2.2.2.2.1.1, .inl v0.2.2.2.2.1.2))], [(a0.2.2.2.2.1, .inl (cA, v0.2.2.2.2.2.2.2.1.1, .inl v0.2.2.2.2.2.2.2.1.2))], [(a0.2.2.2.2.2, .inl (cA, v0.2.2.2.2.2.2.2.2.2.2.2.2.1.1, .inl v0.2.2.2.2.2.2.2.2.2.2.2.2.1.2))]] H locs := hw
          refine lv_iadd hx hb dX11_number_37 ?_
          refine lv_bipush (v := 48) hx hb dX11_number_38 (by decide) ?_
          refine lv_isub hx hb dX11_number_40 ?_
          refine lv_istore (lv' := [(4, .int ((((10 : Int32) * z8_0) + o16) - (48 : Int32))), (0, .ref a0.1), (1, .int p1), (2, .int p2), (3, .int v0.2.2.2.2.2.2.1)]) hx hb dX11_number_41 hl (by decide) rfl (fun ls hl => ?_)
          refine lv_aload_n hx hb dX11_number_43 rfl (lv_at hl 1 rfl) ?_
          refine lv_dup hx hb dX11_number_44 rfl ?_
          refine k_get (ci := 11) (v := .int z8_1) (C := RX11) (T := TX11) (N := 14) hx hb hts hown hz hw (by decide +kernel) 0 rfl rfl 6 (by decide) (hts (.fieldLink RX11 73 "OccupancyMonitorModel" "place" "I") (by decide +kernel)) (fun _ h9 => h9) rfl dX11_number_45 ?_
          refine lv_iconst (v := 1) hx hb dX11_number_48 (by decide) ?_
          refine lv_iadd hx hb dX11_number_49 ?_
          refine k_put (ci := 11) (v := .int (z8_1 + (1 : Int32))) (ty := .int) (C := RX11) (T := TX11) (N := 14) (bs1 := [[(a0.1, .inr (11, [.ref a0.2.1, .ref a0.2.2.1, .int v0.2.2.1, .int v0.2.2.2.1, .ref a0.2.2.2.1, .int v0.2.2.2.2.2.1, .int (z8_1 + (1 : Int32)), .ref a0.2.2.2.2.1, .int v0.2.2.2.2.2.2.2.2.1, .int v0.2.2.2.2.2.2.2.2.2.1, .int v0.2.2.2.2.2.2.2.2.2.2.1, .int v0.2.2.2.2.2.2.2.2.2.2.2.1, .ref a0.2.2.2.2.2, .int v0.2.2.2.2.2.2.2.2.2.2.2.2.2]))], [(a0.2.1, .inl (cA, v0.1.1, .inl v0.1.2))], [(a0.2.2.1, .inl (cA, v0.2.1.1, .inl v0.2.1.2))], [(a0.2.2.2.1, .inl (cA, v0.2.2.2.2.1.1, .inl v0.2.2.2.2.1.2))], [(a0.2.2.2.2.1, .inl (cA, v0.2.2.2.2.2.2.2.1.1, .inl v0.2.2.2.2.2.2.2.1.2))], [(a0.2.2.2.2.2, .inl (cA, v0.2.2.2.2.2.2.2.2.2.2.2.2.1.1, .inl v0.2.2.2.2.2.2.2.2.2.2.2.2.1.2))]]) hx hb hts hown hz hw (by decide +kernel) tyX11 tyX11_ok nmX11 0 rfl rfl 6 (by decide) (hts (.fieldLink RX11 73 "OccupancyMonitorModel" "place" "I") (by decide +kernel)) (fun _ h9 => h9) rfl (by decide +kernel) rfl rfl (Nat.le_of_ble_eq_true rfl) dX11_number_50 rfl (fun H locs hw => ?_)
          refine lv_goto (tgt := 8) hx hb dX11_number_53 (by decide) ?_
          exact ih8 ((((10 : Int32) * z8_0) + o16) - (48 : Int32)) (z8_1 + (1 : Int32)) _ hsp _ _ _ hw (lv_sub hl [1, 2, 3, 4, 0] rfl) kx8_56
  obtain ⟨o11, hso11, hsp⟩ := bnd_of hsp
  refine L8 N (0 : Int32) v0.2.2.2.2.2.2.1 _ hso11 _ _ _ hw (lv_sub hl [2, 3, 4, 1, 0] rfl) (fun y56 hy56 H locs ls hw hl => ?_)
  cases hy56
  refine lv_aload_n hx hb dX11_number_56 rfl (lv_at hl 0 rfl) ?_
  refine k_get (ci := 11) (v := .int o11.2) (C := RX11) (T := TX11) (N := 14) hx hb hts hown hz hw (by decide +kernel) 0 rfl rfl 6 (by decide) (hts (.fieldLink RX11 73 "OccupancyMonitorModel" "place" "I") (by decide +kernel)) (fun _ h9 => h9) rfl dX11_number_57 ?_
  refine lv_iload_n hx hb dX11_number_60 rfl (lv_at hl 3 rfl) ?_
  refine lv_icmp_eq (tgt := 74) hx hb dX11_number_61 (by decide) (fun c17 => ?_) (fun c17 => ?_)
  · have hsp := ift c17 hsp
    refine lv_iconst (v := -1) hx hb dX11_number_74 (by decide) ?_
    have hsp := Option.some.inj hsp
    subst hsp
    have hw : ww A s.heap D [w11 cA a0 (v0.1, v0.2.1, v0.2.2.1, v0.2.2.2.1, v0.2.2.2.2.1, v0.2.2.2.2.2.1, o11.2, v0.2.2.2.2.2.2.2.1, v0.2.2.2.2.2.2.2.2.1, v0.2.2.2.2.2.2.2.2.2.1, v0.2.2.2.2.2.2.2.2.2.2.1, v0.2.2.2.2.2.2.2.2.2.2.2.1, v0.2.2.2.2.2.2.2.2.2.2.2.2.1, v0.2.2.2.2.2.2.2.2.2.2.2.2.2)] H locs := hw
    subst hQ
    exact k_iret hx hb hr hlk hw dX11_number_75
  · have hsp := iff_ c17 hsp
    refine lv_aload_n hx hb dX11_number_64 rfl (lv_at hl 0 rfl) ?_
    have hw : ww A s.heap D [w11 cA a0 (v0.1, v0.2.1, v0.2.2.1, v0.2.2.2.1, v0.2.2.2.2.1, v0.2.2.2.2.2.1, o11.2, v0.2.2.2.2.2.2.2.1, v0.2.2.2.2.2.2.2.2.1, v0.2.2.2.2.2.2.2.2.2.1, v0.2.2.2.2.2.2.2.2.2.2.1, v0.2.2.2.2.2.2.2.2.2.2.2.1, v0.2.2.2.2.2.2.2.2.2.2.2.2.1, v0.2.2.2.2.2.2.2.2.2.2.2.2.2)] H locs := hw
    obtain ⟨o18, hso18, hsp⟩ := bnd_of hsp
    refine k_callV (ci := 11) (C := RX11) (T := TX11) (N := 14) (nA := 0) (As := []) (cs := [w11 cA a0 (v0.1, v0.2.1, v0.2.2.1, v0.2.2.2.1, v0.2.2.2.2.1, v0.2.2.2.2.2.1, o11.2, v0.2.2.2.2.2.2.2.1, v0.2.2.2.2.2.2.2.2.1, v0.2.2.2.2.2.2.2.2.2.1, v0.2.2.2.2.2.2.2.2.2.2.1, v0.2.2.2.2.2.2.2.2.2.2.2.1, v0.2.2.2.2.2.2.2.2.2.2.2.2.1, v0.2.2.2.2.2.2.2.2.2.2.2.2.2)]) (rs := []) (cs1 := [w11 cA a0 (v0.1, v0.2.1, v0.2.2.1, v0.2.2.2.1, v0.2.2.2.2.1, v0.2.2.2.2.2.1, o11.2, v0.2.2.2.2.2.2.2.1, v0.2.2.2.2.2.2.2.2.1, v0.2.2.2.2.2.2.2.2.2.1, v0.2.2.2.2.2.2.2.2.2.2.1, v0.2.2.2.2.2.2.2.2.2.2.2.1, v0.2.2.2.2.2.2.2.2.2.2.2.2.1, v0.2.2.2.2.2.2.2.2.2.2.2.2.2)]) (bs1 := [w11 cA a0 (v0.1, v0.2.1, v0.2.2.1, v0.2.2.2.1, v0.2.2.2.2.1, v0.2.2.2.2.2.1, o11.2, v0.2.2.2.2.2.2.2.1, v0.2.2.2.2.2.2.2.2.1, v0.2.2.2.2.2.2.2.2.2.1, v0.2.2.2.2.2.2.2.2.2.2.1, v0.2.2.2.2.2.2.2.2.2.2.2.1, v0.2.2.2.2.2.2.2.2.2.2.2.2.1, v0.2.2.2.2.2.2.2.2.2.2.2.2.2)]) (rest := []) (st1 := [.int o18]) ⟨hx, hb, hml, hown, hts⟩ hz hw hA (mX11_here l D cA cR a0 (v0.1, v0.2.1, v0.2.2.1, v0.2.2.2.1, v0.2.2.2.2.1, v0.2.2.2.2.2.1, o11.2, v0.2.2.2.2.2.2.2.1, v0.2.2.2.2.2.2.2.2.1, v0.2.2.2.2.2.2.2.2.2.1, v0.2.2.2.2.2.2.2.2.2.2.1, v0.2.2.2.2.2.2.2.2.2.2.2.1, v0.2.2.2.2.2.2.2.2.2.2.2.2.1, v0.2.2.2.2.2.2.2.2.2.2.2.2.2) o18 hso18) gX11_number_X11_here rfl rfl rfl (by decide +kernel) rfl ⟨Nat.le_of_ble_eq_true rfl, Nat.le_of_ble_eq_true rfl⟩ rfl rfl hl.1 rfl (Nat.le_of_ble_eq_true rfl) dX11_number_65 ⟨Nat.le_of_ble_eq_true rfl, Nat.le_of_ble_eq_true rfl⟩ [0] [] [0] rfl rfl rfl rfl rfl rfl (fun H locs hw => ?_)
    have hw : ww A s.heap D [[(a0.1, .inr (11, [.ref a0.2.1, .ref a0.2.2.1, .int v0.2.2.1, .int v0.2.2.2.1, .ref a0.2.2.2.1, .int v0.2.2.2.2.2.1, .int o11.2, .ref a0.2.2.2.2.1, .int v0.2.2.2.2.2.2.2.2.1, .int v0.2.2.2.2.2.2.2.2.2.1, .int v0.2.2.2.2.2.2.2.2.2.2.1, .int v0.2.2.2.2.2.2.2.2.2.2.2.1, .ref a0.2.2.2.2.2, .int v0.2.2.2.2.2.2.2.2.2.2.2.2.2]))], [(a0.2.1, .inl (cA, v0.1.1, .inl v0.1.2))], [(a0.2.2.1, .inl (cA, v0.2.1.1, .inl v0.2.1.2))], [(a0.2.2.2.1, .inl (cA, v0.2.2.2.2.1.1, .inl v0.2.2.2.2.1.2))], [(a0.2.2.2.2.1, .inl (cA, v0.2.2.2.2.2.2.2.1.1, .inl v0.2.2.2.2.2.2.2.1.2))], [(a0.2.2.2.2.2, .inl (cA, v0.2.2.2.2.2.2.2.2.2.2.2.2.1.1, .inl v0.2.2.2.2.2.2.2.2.2.2.2.2.1.2))]] H locs := hw
    obtain ⟨o19, hso19, hsp⟩ := bnd_of hsp
    refine k_callS (nA := 1) (As := [.int o18]) (cs := []) (rs := [[(a0.1, .inr (11, [.ref a0.2.1, .ref a0.2.2.1, .int v0.2.2.1, .int v0.2.2.2.1, .ref a0.2.2.2.1, .int v0.2.2.2.2.2.1, .int o11.2, .ref a0.2.2.2.2.1, .int v0.2.2.2.2.2.2.2.2.1, .int v0.2.2.2.2.2.2.2.2.2.1, .int v0.2.2.2.2.2.2.2.2.2.2.1, .int v0.2.2.2.2.2.2.2.2.2.2.2.1, .ref a0.2.2.2.2.2, .int v0.2.2.2.2.2.2.2.2.2.2.2.2.2]))], [(a0.2.1, .inl (cA, v0.1.1, .inl v0.1.2))], [(a0.2.2.1, .inl (cA, v0.2.1.1, .inl v0.2.1.2))], [(a0.2.2.2.1, .inl (cA, v0.2.2.2.2.1.1, .inl v0.2.2.2.2.1.2))], [(a0.2.2.2.2.1, .inl (cA, v0.2.2.2.2.2.2.2.1.1, .inl v0.2.2.2.2.2.2.2.1.2))], [(a0.2.2.2.2.2, .inl (cA, v0.2.2.2.2.2.2.2.2.2.2.2.2.1.1, .inl v0.2.2.2.2.2.2.2.2.2.2.2.2.1.2))]]) (cs1 := []) (bs1 := [[(a0.1, .inr (11, [.ref a0.2.1, .ref a0.2.2.1, .int v0.2.2.1, .int v0.2.2.2.1, .ref a0.2.2.2.1, .int v0.2.2.2.2.2.1, .int o11.2, .ref a0.2.2.2.2.1, .int v0.2.2.2.2.2.2.2.2.1, .int v0.2.2.2.2.2.2.2.2.2.1, .int v0.2.2.2.2.2.2.2.2.2.2.1, .int v0.2.2.2.2.2.2.2.2.2.2.2.1, .ref a0.2.2.2.2.2, .int v0.2.2.2.2.2.2.2.2.2.2.2.2.2]))], [(a0.2.1, .inl (cA, v0.1.1, .inl v0.1.2))], [(a0.2.2.1, .inl (cA, v0.2.1.1, .inl v0.2.1.2))], [(a0.2.2.2.1, .inl (cA, v0.2.2.2.2.1.1, .inl v0.2.2.2.2.1.2))], [(a0.2.2.2.2.1, .inl (cA, v0.2.2.2.2.2.2.2.1.1, .inl v0.2.2.2.2.2.2.2.1.2))], [(a0.2.2.2.2.2, .inl (cA, v0.2.2.2.2.2.2.2.2.2.2.2.2.1.1, .inl v0.2.2.2.2.2.2.2.2.2.2.2.2.1.2))]]) (rest := []) (st1 := [.int o19]) ⟨hx, hb, hml, hown, hts⟩ hz hw hA (mX11_isFigure l D cA cR o18 o19 hso19) gX11_number_X11_isFigure rfl rfl rfl (by decide +kernel) rfl ⟨Nat.le_of_ble_eq_true rfl, Nat.le_of_ble_eq_true rfl⟩ hl.1 rfl (Nat.le_of_ble_eq_true rfl) dX11_number_68 ⟨Nat.le_of_ble_eq_true rfl, Nat.le_of_ble_eq_true rfl⟩ [] [0, 1, 2, 3, 4, 5] [0, 1, 2, 3, 4, 5] rfl rfl rfl rfl rfl rfl (fun H locs hw => ?_)
    refine lv_if_eq (tgt := 76) hx hb dX11_number_71 (by decide) (fun c20 => ?_) (fun c20 => ?_)
    · have hsp := ift c20 hsp
      refine lv_aload_n hx hb dX11_number_76 rfl (lv_at hl 0 rfl) ?_
      refine lv_iload hx hb dX11_number_77 (lv_at hl 4 rfl) ?_
      refine lv_i2l hx hb dX11_number_79 rfl ?_
      refine lv_iload_n hx hb dX11_number_80 rfl (lv_at hl 1 rfl) ?_
      refine lv_i2l hx hb dX11_number_81 rfl ?_
      refine lv_iload_n hx hb dX11_number_82 rfl (lv_at hl 2 rfl) ?_
      refine lv_i2l hx hb dX11_number_83 rfl ?_
      obtain ⟨o21, hso21, hsp⟩ := bnd_of hsp
      refine k_callS (nA := 3) (As := [.long o11.1.toInt64, .long p1.toInt64, .long p2.toInt64]) (cs := []) (rs := [[(a0.1, .inr (11, [.ref a0.2.1, .ref a0.2.2.1, .int v0.2.2.1, .int v0.2.2.2.1, .ref a0.2.2.2.1, .int v0.2.2.2.2.2.1, .int o11.2, .ref a0.2.2.2.2.1, .int v0.2.2.2.2.2.2.2.2.1, .int v0.2.2.2.2.2.2.2.2.2.1, .int v0.2.2.2.2.2.2.2.2.2.2.1, .int v0.2.2.2.2.2.2.2.2.2.2.2.1, .ref a0.2.2.2.2.2, .int v0.2.2.2.2.2.2.2.2.2.2.2.2.2]))], [(a0.2.1, .inl (cA, v0.1.1, .inl v0.1.2))], [(a0.2.2.1, .inl (cA, v0.2.1.1, .inl v0.2.1.2))], [(a0.2.2.2.1, .inl (cA, v0.2.2.2.2.1.1, .inl v0.2.2.2.2.1.2))], [(a0.2.2.2.2.1, .inl (cA, v0.2.2.2.2.2.2.2.1.1, .inl v0.2.2.2.2.2.2.2.1.2))], [(a0.2.2.2.2.2, .inl (cA, v0.2.2.2.2.2.2.2.2.2.2.2.2.1.1, .inl v0.2.2.2.2.2.2.2.2.2.2.2.2.1.2))]]) (cs1 := []) (bs1 := [[(a0.1, .inr (11, [.ref a0.2.1, .ref a0.2.2.1, .int v0.2.2.1, .int v0.2.2.2.1, .ref a0.2.2.2.1, .int v0.2.2.2.2.2.1, .int o11.2, .ref a0.2.2.2.2.1, .int v0.2.2.2.2.2.2.2.2.1, .int v0.2.2.2.2.2.2.2.2.2.1, .int v0.2.2.2.2.2.2.2.2.2.2.1, .int v0.2.2.2.2.2.2.2.2.2.2.2.1, .ref a0.2.2.2.2.2, .int v0.2.2.2.2.2.2.2.2.2.2.2.2.2]))], [(a0.2.1, .inl (cA, v0.1.1, .inl v0.1.2))], [(a0.2.2.1, .inl (cA, v0.2.1.1, .inl v0.2.1.2))], [(a0.2.2.2.1, .inl (cA, v0.2.2.2.2.1.1, .inl v0.2.2.2.2.1.2))], [(a0.2.2.2.2.1, .inl (cA, v0.2.2.2.2.2.2.2.1.1, .inl v0.2.2.2.2.2.2.2.1.2))], [(a0.2.2.2.2.2, .inl (cA, v0.2.2.2.2.2.2.2.2.2.2.2.2.1.1, .inl v0.2.2.2.2.2.2.2.2.2.2.2.2.1.2))]]) (rest := [.ref a0.1]) (st1 := [.int o21, .ref a0.1]) ⟨hx, hb, hml, hown, hts⟩ hz hw hA (mX11_in l D cA cR o11.1.toInt64 p1.toInt64 p2.toInt64 o21 hso21) gX11_number_X11_in rfl rfl rfl (by decide +kernel) rfl ⟨Nat.le_of_ble_eq_true rfl, Nat.le_of_ble_eq_true rfl⟩ hl.1 rfl (Nat.le_of_ble_eq_true rfl) dX11_number_84 ⟨Nat.le_of_ble_eq_true rfl, Nat.le_of_ble_eq_true rfl⟩ [] [0, 1, 2, 3, 4, 5] [0, 1, 2, 3, 4, 5] rfl rfl rfl rfl rfl rfl (fun H locs hw => ?_)
      obtain ⟨j23, hsj23, hkj23⟩ := bnd_of hsp
      have Jj23 : ∀ (H : Heap) (locs : List Loc) (ls : Array Slot), ww A s.heap D [[(a0.1, .inr (11, [.ref a0.2.1, .ref a0.2.2.1, .int v0.2.2.1, .int v0.2.2.2.1, .ref a0.2.2.2.1, .int v0.2.2.2.2.2.1, .int o11.2, .ref a0.2.2.2.2.1, .int v0.2.2.2.2.2.2.2.2.1, .int v0.2.2.2.2.2.2.2.2.2.1, .int v0.2.2.2.2.2.2.2.2.2.2.1, .int v0.2.2.2.2.2.2.2.2.2.2.2.1, .ref a0.2.2.2.2.2, .int v0.2.2.2.2.2.2.2.2.2.2.2.2.2]))], [(a0.2.1, .inl (cA, v0.1.1, .inl v0.1.2))], [(a0.2.2.1, .inl (cA, v0.2.1.1, .inl v0.2.1.2))], [(a0.2.2.2.1, .inl (cA, v0.2.2.2.2.1.1, .inl v0.2.2.2.2.1.2))], [(a0.2.2.2.2.1, .inl (cA, v0.2.2.2.2.2.2.2.1.1, .inl v0.2.2.2.2.2.2.2.1.2))], [(a0.2.2.2.2.2, .inl (cA, v0.2.2.2.2.2.2.2.2.2.2.2.2.1.1, .inl v0.2.2.2.2.2.2.2.2.2.2.2.2.1.2))]] H locs → lv_has ls 5 [(0, .ref a0.1), (1, .int p1), (2, .int p2), (3, .int v0.2.2.2.2.2.2.1), (4, .int o11.1)] → W p l e rX11_number s m args below meth c H locs 0 0 Q (F0 m 98 ls [.int j23, .ref a0.1]) := by
        intro H locs ls hw hl
        have hsp := hkj23
        refine k_put (ci := 11) (v := .int j23) (ty := .int) (C := RX11) (T := TX11) (N := 14) (bs1 := [[(a0.1, .inr (11, [.ref a0.2.1, .ref a0.2.2.1, .int v0.2.2.1, .int v0.2.2.2.1, .ref a0.2.2.2.1, .int v0.2.2.2.2.2.1, .int j23, .ref a0.2.2.2.2.1, .int v0.2.2.2.2.2.2.2.2.1, .int v0.2.2.2.2.2.2.2.2.2.1, .int v0.2.2.2.2.2.2.2.2.2.2.1, .int v0.2.2.2.2.2.2.2.2.2.2.2.1, .ref a0.2.2.2.2.2, .int v0.2.2.2.2.2.2.2.2.2.2.2.2.2]))], [(a0.2.1, .inl (cA, v0.1.1, .inl v0.1.2))], [(a0.2.2.1, .inl (cA, v0.2.1.1, .inl v0.2.1.2))], [(a0.2.2.2.1, .inl (cA, v0.2.2.2.2.1.1, .inl v0.2.2.2.2.1.2))], [(a0.2.2.2.2.1, .inl (cA, v0.2.2.2.2.2.2.2.1.1, .inl v0.2.2.2.2.2.2.2.1.2))], [(a0.2.2.2.2.2, .inl (cA, v0.2.2.2.2.2.2.2.2.2.2.2.2.1.1, .inl v0.2.2.2.2.2.2.2.2.2.2.2.2.1.2))]]) hx hb hts hown hz hw (by decide +kernel) tyX11 tyX11_ok nmX11 0 rfl rfl 6 (by decide) (hts (.fieldLink RX11 73 "OccupancyMonitorModel" "place" "I") (by decide +kernel)) (fun _ h9 => h9) rfl (by decide +kernel) rfl rfl (Nat.le_of_ble_eq_true rfl) dX11_number_98 rfl (fun H locs hw => ?_)
        refine lv_iload hx hb dX11_number_101 (lv_at hl 4 rfl) ?_
        refine lv_i2l hx hb dX11_number_103 rfl ?_
        refine lv_iload_n hx hb dX11_number_104 rfl (lv_at hl 1 rfl) ?_
        refine lv_i2l hx hb dX11_number_105 rfl ?_
        refine lv_iload_n hx hb dX11_number_106 rfl (lv_at hl 2 rfl) ?_
        refine lv_i2l hx hb dX11_number_107 rfl ?_
        obtain ⟨o24, hso24, hsp⟩ := bnd_of hsp
        refine k_callS (nA := 3) (As := [.long o11.1.toInt64, .long p1.toInt64, .long p2.toInt64]) (cs := []) (rs := [[(a0.1, .inr (11, [.ref a0.2.1, .ref a0.2.2.1, .int v0.2.2.1, .int v0.2.2.2.1, .ref a0.2.2.2.1, .int v0.2.2.2.2.2.1, .int j23, .ref a0.2.2.2.2.1, .int v0.2.2.2.2.2.2.2.2.1, .int v0.2.2.2.2.2.2.2.2.2.1, .int v0.2.2.2.2.2.2.2.2.2.2.1, .int v0.2.2.2.2.2.2.2.2.2.2.2.1, .ref a0.2.2.2.2.2, .int v0.2.2.2.2.2.2.2.2.2.2.2.2.2]))], [(a0.2.1, .inl (cA, v0.1.1, .inl v0.1.2))], [(a0.2.2.1, .inl (cA, v0.2.1.1, .inl v0.2.1.2))], [(a0.2.2.2.1, .inl (cA, v0.2.2.2.2.1.1, .inl v0.2.2.2.2.1.2))], [(a0.2.2.2.2.1, .inl (cA, v0.2.2.2.2.2.2.2.1.1, .inl v0.2.2.2.2.2.2.2.1.2))], [(a0.2.2.2.2.2, .inl (cA, v0.2.2.2.2.2.2.2.2.2.2.2.2.1.1, .inl v0.2.2.2.2.2.2.2.2.2.2.2.2.1.2))]]) (cs1 := []) (bs1 := [[(a0.1, .inr (11, [.ref a0.2.1, .ref a0.2.2.1, .int v0.2.2.1, .int v0.2.2.2.1, .ref a0.2.2.2.1, .int v0.2.2.2.2.2.1, .int j23, .ref a0.2.2.2.2.1, .int v0.2.2.2.2.2.2.2.2.1, .int v0.2.2.2.2.2.2.2.2.2.1, .int v0.2.2.2.2.2.2.2.2.2.2.1, .int v0.2.2.2.2.2.2.2.2.2.2.2.1, .ref a0.2.2.2.2.2, .int v0.2.2.2.2.2.2.2.2.2.2.2.2.2]))], [(a0.2.1, .inl (cA, v0.1.1, .inl v0.1.2))], [(a0.2.2.1, .inl (cA, v0.2.1.1, .inl v0.2.1.2))], [(a0.2.2.2.1, .inl (cA, v0.2.2.2.2.1.1, .inl v0.2.2.2.2.1.2))], [(a0.2.2.2.2.1, .inl (cA, v0.2.2.2.2.2.2.2.1.1, .inl v0.2.2.2.2.2.2.2.1.2))], [(a0.2.2.2.2.2, .inl (cA, v0.2.2.2.2.2.2.2.2.2.2.2.2.1.1, .inl v0.2.2.2.2.2.2.2.2.2.2.2.2.1.2))]]) (rest := []) (st1 := [.int o24]) ⟨hx, hb, hml, hown, hts⟩ hz hw hA (mX11_in l D cA cR o11.1.toInt64 p1.toInt64 p2.toInt64 o24 hso24) gX11_number_X11_in rfl rfl rfl (by decide +kernel) rfl ⟨Nat.le_of_ble_eq_true rfl, Nat.le_of_ble_eq_true rfl⟩ hl.1 rfl (Nat.le_of_ble_eq_true rfl) dX11_number_108 ⟨Nat.le_of_ble_eq_true rfl, Nat.le_of_ble_eq_true rfl⟩ [] [0, 1, 2, 3, 4, 5] [0, 1, 2, 3, 4, 5] rfl rfl rfl rfl rfl rfl (fun H locs hw => ?_)
        refine lv_if_eq (tgt := 119) hx hb dX11_number_111 (by decide) (fun c25 => ?_) (fun c25 => ?_)
        · have hsp := ift c25 hsp
          refine lv_iconst (v := -1) hx hb dX11_number_119 (by decide) ?_
          have hsp := Option.some.inj hsp
          subst hsp
          have hw : ww A s.heap D [w11 cA a0 (v0.1, v0.2.1, v0.2.2.1, v0.2.2.2.1, v0.2.2.2.2.1, v0.2.2.2.2.2.1, j23, v0.2.2.2.2.2.2.2.1, v0.2.2.2.2.2.2.2.2.1, v0.2.2.2.2.2.2.2.2.2.1, v0.2.2.2.2.2.2.2.2.2.2.1, v0.2.2.2.2.2.2.2.2.2.2.2.1, v0.2.2.2.2.2.2.2.2.2.2.2.2.1, v0.2.2.2.2.2.2.2.2.2.2.2.2.2)] H locs := hw
          subst hQ
          exact k_iret hx hb hr hlk hw dX11_number_120
        · have hsp := iff_ c25 hsp
          refine lv_iload hx hb dX11_number_114 (lv_at hl 4 rfl) ?_
          refine lv_goto (tgt := 120) hx hb dX11_number_116 (by decide) ?_
          have hsp := Option.some.inj hsp
          subst hsp
          have hw : ww A s.heap D [w11 cA a0 (v0.1, v0.2.1, v0.2.2.1, v0.2.2.2.1, v0.2.2.2.2.1, v0.2.2.2.2.2.1, j23, v0.2.2.2.2.2.2.2.1, v0.2.2.2.2.2.2.2.2.1, v0.2.2.2.2.2.2.2.2.2.1, v0.2.2.2.2.2.2.2.2.2.2.1, v0.2.2.2.2.2.2.2.2.2.2.2.1, v0.2.2.2.2.2.2.2.2.2.2.2.2.1, v0.2.2.2.2.2.2.2.2.2.2.2.2.2)] H locs := hw
          subst hQ
          exact k_iret hx hb hr hlk hw dX11_number_120
      have hsp := hsj23
      refine lv_if_eq (tgt := 97) hx hb dX11_number_87 (by decide) (fun c26 => ?_) (fun c26 => ?_)
      · have hsp := ift c26 hsp
        refine lv_iload_n hx hb dX11_number_97 rfl (lv_at hl 3 rfl) ?_
        have hsp := Option.some.inj hsp
        subst hsp
        exact Jj23 _ _ _ hw (lv_sub hl [0, 1, 2, 3, 4] rfl)
      · have hsp := iff_ c26 hsp
        refine lv_aload_n hx hb dX11_number_90 rfl (lv_at hl 0 rfl) ?_
        refine k_get (ci := 11) (v := .int o11.2) (C := RX11) (T := TX11) (N := 14) hx hb hts hown hz hw (by decide +kernel) 0 rfl rfl 6 (by decide) (hts (.fieldLink RX11 73 "OccupancyMonitorModel" "place" "I") (by decide +kernel)) (fun _ h9 => h9) rfl dX11_number_91 ?_
        refine lv_goto (tgt := 98) hx hb dX11_number_94 (by decide) ?_
        have hsp := Option.some.inj hsp
        subst hsp
        exact Jj23 _ _ _ hw (lv_sub hl [0, 1, 2, 3, 4] rfl)
    · have hsp := iff_ c20 hsp
      refine lv_iconst (v := -1) hx hb dX11_number_74 (by decide) ?_
      have hsp := Option.some.inj hsp
      subst hsp
      have hw : ww A s.heap D [w11 cA a0 (v0.1, v0.2.1, v0.2.2.1, v0.2.2.2.1, v0.2.2.2.2.1, v0.2.2.2.2.2.1, o11.2, v0.2.2.2.2.2.2.2.1, v0.2.2.2.2.2.2.2.2.1, v0.2.2.2.2.2.2.2.2.2.1, v0.2.2.2.2.2.2.2.2.2.2.1, v0.2.2.2.2.2.2.2.2.2.2.2.1, v0.2.2.2.2.2.2.2.2.2.2.2.2.1, v0.2.2.2.2.2.2.2.2.2.2.2.2.2)] H locs := hw
      subst hQ
      exact k_iret hx hb hr hlk hw dX11_number_75
noncomputable def sX11_passes (v0 : V11) (p1 : Int32) : Option (Int32 × V11) := ((sX11_here v0).bind (fun o1 => (((if o1 = p1 then (some (1 : Int32)) else (some (0 : Int32))) : Option (Int32)).bind (fun j3 => (if j3 = 0 then (grd (isz j3) (some (j3, (v0.1, v0.2.1, v0.2.2.1, v0.2.2.2.1, v0.2.2.2.2.1, v0.2.2.2.2.2.1, (v0.2.2.2.2.2.2.1 + (0 : Int32)), v0.2.2.2.2.2.2.2.1, v0.2.2.2.2.2.2.2.2.1, v0.2.2.2.2.2.2.2.2.2.1, v0.2.2.2.2.2.2.2.2.2.2.1, v0.2.2.2.2.2.2.2.2.2.2.2.1, v0.2.2.2.2.2.2.2.2.2.2.2.2.1, v0.2.2.2.2.2.2.2.2.2.2.2.2.2)))) else (grd (isz j3) (some (j3, (v0.1, v0.2.1, v0.2.2.1, v0.2.2.2.1, v0.2.2.2.2.1, v0.2.2.2.2.2.1, (v0.2.2.2.2.2.2.1 + (1 : Int32)), v0.2.2.2.2.2.2.2.1, v0.2.2.2.2.2.2.2.2.1, v0.2.2.2.2.2.2.2.2.2.1, v0.2.2.2.2.2.2.2.2.2.2.1, v0.2.2.2.2.2.2.2.2.2.2.2.1, v0.2.2.2.2.2.2.2.2.2.2.2.2.1, v0.2.2.2.2.2.2.2.2.2.2.2.2.2)))))))))
abbrev rX11_passes : Room := { frames := 1, cells := 0, slots := 0, locals := 20 }
set_option maxHeartbeats 4000000 in
set_option maxRecDepth 100000 in
theorem mX11_passes (l : Launch) (D : va_G) (cA cR : ClassId) (a0 : A11) (v0 : V11) (p1 : Int32) (o : Int32 × V11) (hsp : sX11_passes v0 p1 = some o) : MI l yX11_passes wsX11_passes rX11_passes D cA cR [.ref a0.1, .int p1] [w11 cA a0 v0] (some (.int o.1)) [w11 cA a0 o.2] 0 0 := by
  have hsp : ((sX11_here v0).bind (fun o1 => (((if o1 = p1 then (some (1 : Int32)) else (some (0 : Int32))) : Option (Int32)).bind (fun j3 => (if j3 = 0 then (grd (isz j3) (some (j3, (v0.1, v0.2.1, v0.2.2.1, v0.2.2.2.1, v0.2.2.2.2.1, v0.2.2.2.2.2.1, (v0.2.2.2.2.2.2.1 + (0 : Int32)), v0.2.2.2.2.2.2.2.1, v0.2.2.2.2.2.2.2.2.1, v0.2.2.2.2.2.2.2.2.2.1, v0.2.2.2.2.2.2.2.2.2.2.1, v0.2.2.2.2.2.2.2.2.2.2.2.1, v0.2.2.2.2.2.2.2.2.2.2.2.2.1, v0.2.2.2.2.2.2.2.2.2.2.2.2.2)))) else (grd (isz j3) (some (j3, (v0.1, v0.2.1, v0.2.2.1, v0.2.2.2.1, v0.2.2.2.2.1, v0.2.2.2.2.2.1, (v0.2.2.2.2.2.2.1 + (1 : Int32)), v0.2.2.2.2.2.2.2.1, v0.2.2.2.2.2.2.2.2.1, v0.2.2.2.2.2.2.2.2.2.1, v0.2.2.2.2.2.2.2.2.2.2.1, v0.2.2.2.2.2.2.2.2.2.2.2.1, v0.2.2.2.2.2.2.2.2.2.2.2.2.1, v0.2.2.2.2.2.2.2.2.2.2.2.2.2))))))))) = some o := hsp
  refine MI.ofW (cc := cX11_passes) (maxL := 3) (ret := (some .boolean)) (by decide) rfl (Nat.le_of_ble_eq_true rfl) ?_
  intro p e s m args below meth c A ls Q H locs hx hb hr hlk hml hown hnm hts hz hA hQ hw hl
  have hl : lv_has ls 3 [(0, .ref a0.1), (1, .int p1)] := hl
  have hw : ww A s.heap D [[(a0.1, .inr (11, [.ref a0.2.1, .ref a0.2.2.1, .int v0.2.2.1, .int v0.2.2.2.1, .ref a0.2.2.2.1, .int v0.2.2.2.2.2.1, .int v0.2.2.2.2.2.2.1, .ref a0.2.2.2.2.1, .int v0.2.2.2.2.2.2.2.2.1, .int v0.2.2.2.2.2.2.2.2.2.1, .int v0.2.2.2.2.2.2.2.2.2.2.1, .int v0.2.2.2.2.2.2.2.2.2.2.2.1, .ref a0.2.2.2.2.2, .int v0.2.2.2.2.2.2.2.2.2.2.2.2.2]))], [(a0.2.1, .inl (cA, v0.1.1, .inl v0.1.2))], [(a0.2.2.1, .inl (cA, v0.2.1.1, .inl v0.2.1.2))], [(a0.2.2.2.1, .inl (cA, v0.2.2.2.2.1.1, .inl v0.2.2.2.2.1.2))], [(a0.2.2.2.2.1, .inl (cA, v0.2.2.2.2.2.2.2.1.1, .inl v0.2.2.2.2.2.2.2.1.2))], [(a0.2.2.2.2.2, .inl (cA, v0.2.2.2.2.2.2.2.2.2.2.2.2.1.1, .inl v0.2.2.2.2.2.2.2.2.2.2.2.2.1.2))]] H locs := hw
  refine lv_aload_n hx hb dX11_passes_0 rfl (lv_at hl 0 rfl) ?_
  have hw : ww A s.heap D [w11 cA a0 v0] H locs := hw
  obtain ⟨o1, hso1, hsp⟩ := bnd_of hsp
  refine k_callV (ci := 11) (C := RX11) (T := TX11) (N := 14) (nA := 0) (As := []) (cs := [w11 cA a0 v0]) (rs := []) (cs1 := [w11 cA a0 v0]) (bs1 := [w11 cA a0 v0]) (rest := []) (st1 := [.int o1]) ⟨hx, hb, hml, hown, hts⟩ hz hw hA (mX11_here l D cA cR a0 v0 o1 hso1) gX11_passes_X11_here rfl rfl rfl (by decide +kernel) rfl ⟨Nat.le_of_ble_eq_true rfl, Nat.le_of_ble_eq_true rfl⟩ rfl rfl hl.1 rfl (Nat.le_of_ble_eq_true rfl) dX11_passes_1 ⟨Nat.le_of_ble_eq_true rfl, Nat.le_of_ble_eq_true rfl⟩ [0] [] [0] rfl rfl rfl rfl rfl rfl (fun H locs hw => ?_)
  have hw : ww A s.heap D [[(a0.1, .inr (11, [.ref a0.2.1, .ref a0.2.2.1, .int v0.2.2.1, .int v0.2.2.2.1, .ref a0.2.2.2.1, .int v0.2.2.2.2.2.1, .int v0.2.2.2.2.2.2.1, .ref a0.2.2.2.2.1, .int v0.2.2.2.2.2.2.2.2.1, .int v0.2.2.2.2.2.2.2.2.2.1, .int v0.2.2.2.2.2.2.2.2.2.2.1, .int v0.2.2.2.2.2.2.2.2.2.2.2.1, .ref a0.2.2.2.2.2, .int v0.2.2.2.2.2.2.2.2.2.2.2.2.2]))], [(a0.2.1, .inl (cA, v0.1.1, .inl v0.1.2))], [(a0.2.2.1, .inl (cA, v0.2.1.1, .inl v0.2.1.2))], [(a0.2.2.2.1, .inl (cA, v0.2.2.2.2.1.1, .inl v0.2.2.2.2.1.2))], [(a0.2.2.2.2.1, .inl (cA, v0.2.2.2.2.2.2.2.1.1, .inl v0.2.2.2.2.2.2.2.1.2))], [(a0.2.2.2.2.2, .inl (cA, v0.2.2.2.2.2.2.2.2.2.2.2.2.1.1, .inl v0.2.2.2.2.2.2.2.2.2.2.2.2.1.2))]] H locs := hw
  refine lv_iload_n hx hb dX11_passes_4 rfl (lv_at hl 1 rfl) ?_
  obtain ⟨j3, hsj3, hkj3⟩ := bnd_of hsp
  have Jj3 : ∀ (H : Heap) (locs : List Loc) (ls : Array Slot), ww A s.heap D [[(a0.1, .inr (11, [.ref a0.2.1, .ref a0.2.2.1, .int v0.2.2.1, .int v0.2.2.2.1, .ref a0.2.2.2.1, .int v0.2.2.2.2.2.1, .int v0.2.2.2.2.2.2.1, .ref a0.2.2.2.2.1, .int v0.2.2.2.2.2.2.2.2.1, .int v0.2.2.2.2.2.2.2.2.2.1, .int v0.2.2.2.2.2.2.2.2.2.2.1, .int v0.2.2.2.2.2.2.2.2.2.2.2.1, .ref a0.2.2.2.2.2, .int v0.2.2.2.2.2.2.2.2.2.2.2.2.2]))], [(a0.2.1, .inl (cA, v0.1.1, .inl v0.1.2))], [(a0.2.2.1, .inl (cA, v0.2.1.1, .inl v0.2.1.2))], [(a0.2.2.2.1, .inl (cA, v0.2.2.2.2.1.1, .inl v0.2.2.2.2.1.2))], [(a0.2.2.2.2.1, .inl (cA, v0.2.2.2.2.2.2.2.1.1, .inl v0.2.2.2.2.2.2.2.1.2))], [(a0.2.2.2.2.2, .inl (cA, v0.2.2.2.2.2.2.2.2.2.2.2.2.1.1, .inl v0.2.2.2.2.2.2.2.2.2.2.2.2.1.2))]] H locs → lv_has ls 3 [(0, .ref a0.1), (1, .int p1)] → W p l e rX11_passes s m args below meth c H locs 0 0 Q (F0 m 13 ls [.int j3]) := by
    intro H locs ls hw hl
    have hsp := hkj3
    refine lv_istore_n (lv' := [(2, .int j3), (0, .ref a0.1), (1, .int p1)]) hx hb dX11_passes_13 rfl hl (by decide) rfl (fun ls hl => ?_)
    refine lv_aload_n hx hb dX11_passes_14 rfl (lv_at hl 1 rfl) ?_
    refine lv_dup hx hb dX11_passes_15 rfl ?_
    refine k_get (ci := 11) (v := .int v0.2.2.2.2.2.2.1) (C := RX11) (T := TX11) (N := 14) hx hb hts hown hz hw (by decide +kernel) 0 rfl rfl 6 (by decide) (hts (.fieldLink RX11 73 "OccupancyMonitorModel" "place" "I") (by decide +kernel)) (fun _ h9 => h9) rfl dX11_passes_16 ?_
    refine lv_iload_n hx hb dX11_passes_19 rfl (lv_at hl 0 rfl) ?_
    refine lv_if_eq (tgt := 27) hx hb dX11_passes_20 (by decide) (fun c4 => ?_) (fun c4 => ?_)
    · have hsp := ift c4 hsp
      refine lv_iconst (v := 0) hx hb dX11_passes_27 (by decide) ?_
      refine lv_iadd hx hb dX11_passes_28 ?_
      refine k_put (ci := 11) (v := .int (v0.2.2.2.2.2.2.1 + (0 : Int32))) (ty := .int) (C := RX11) (T := TX11) (N := 14) (bs1 := [[(a0.1, .inr (11, [.ref a0.2.1, .ref a0.2.2.1, .int v0.2.2.1, .int v0.2.2.2.1, .ref a0.2.2.2.1, .int v0.2.2.2.2.2.1, .int (v0.2.2.2.2.2.2.1 + (0 : Int32)), .ref a0.2.2.2.2.1, .int v0.2.2.2.2.2.2.2.2.1, .int v0.2.2.2.2.2.2.2.2.2.1, .int v0.2.2.2.2.2.2.2.2.2.2.1, .int v0.2.2.2.2.2.2.2.2.2.2.2.1, .ref a0.2.2.2.2.2, .int v0.2.2.2.2.2.2.2.2.2.2.2.2.2]))], [(a0.2.1, .inl (cA, v0.1.1, .inl v0.1.2))], [(a0.2.2.1, .inl (cA, v0.2.1.1, .inl v0.2.1.2))], [(a0.2.2.2.1, .inl (cA, v0.2.2.2.2.1.1, .inl v0.2.2.2.2.1.2))], [(a0.2.2.2.2.1, .inl (cA, v0.2.2.2.2.2.2.2.1.1, .inl v0.2.2.2.2.2.2.2.1.2))], [(a0.2.2.2.2.2, .inl (cA, v0.2.2.2.2.2.2.2.2.2.2.2.2.1.1, .inl v0.2.2.2.2.2.2.2.2.2.2.2.2.1.2))]]) hx hb hts hown hz hw (by decide +kernel) tyX11 tyX11_ok nmX11 0 rfl rfl 6 (by decide) (hts (.fieldLink RX11 73 "OccupancyMonitorModel" "place" "I") (by decide +kernel)) (fun _ h9 => h9) rfl (by decide +kernel) rfl rfl (Nat.le_of_ble_eq_true rfl) dX11_passes_29 rfl (fun H locs hw => ?_)
      refine lv_iload_n hx hb dX11_passes_32 rfl (lv_at hl 0 rfl) ?_
      obtain ⟨g5, hsp⟩ := grd_of hsp
      have hsp := Option.some.inj hsp
      subst hsp
      have hw : ww A s.heap D [w11 cA a0 (v0.1, v0.2.1, v0.2.2.1, v0.2.2.2.1, v0.2.2.2.2.1, v0.2.2.2.2.2.1, (v0.2.2.2.2.2.2.1 + (0 : Int32)), v0.2.2.2.2.2.2.2.1, v0.2.2.2.2.2.2.2.2.1, v0.2.2.2.2.2.2.2.2.2.1, v0.2.2.2.2.2.2.2.2.2.2.1, v0.2.2.2.2.2.2.2.2.2.2.2.1, v0.2.2.2.2.2.2.2.2.2.2.2.2.1, v0.2.2.2.2.2.2.2.2.2.2.2.2.2)] H locs := hw
      subst hQ
      exact k_zret (v := j3) hx hb hr hlk g5 hw dX11_passes_33
    · have hsp := iff_ c4 hsp
      refine lv_iconst (v := 1) hx hb dX11_passes_23 (by decide) ?_
      refine lv_goto (tgt := 28) hx hb dX11_passes_24 (by decide) ?_
      refine lv_iadd hx hb dX11_passes_28 ?_
      refine k_put (ci := 11) (v := .int (v0.2.2.2.2.2.2.1 + (1 : Int32))) (ty := .int) (C := RX11) (T := TX11) (N := 14) (bs1 := [[(a0.1, .inr (11, [.ref a0.2.1, .ref a0.2.2.1, .int v0.2.2.1, .int v0.2.2.2.1, .ref a0.2.2.2.1, .int v0.2.2.2.2.2.1, .int (v0.2.2.2.2.2.2.1 + (1 : Int32)), .ref a0.2.2.2.2.1, .int v0.2.2.2.2.2.2.2.2.1, .int v0.2.2.2.2.2.2.2.2.2.1, .int v0.2.2.2.2.2.2.2.2.2.2.1, .int v0.2.2.2.2.2.2.2.2.2.2.2.1, .ref a0.2.2.2.2.2, .int v0.2.2.2.2.2.2.2.2.2.2.2.2.2]))], [(a0.2.1, .inl (cA, v0.1.1, .inl v0.1.2))], [(a0.2.2.1, .inl (cA, v0.2.1.1, .inl v0.2.1.2))], [(a0.2.2.2.1, .inl (cA, v0.2.2.2.2.1.1, .inl v0.2.2.2.2.1.2))], [(a0.2.2.2.2.1, .inl (cA, v0.2.2.2.2.2.2.2.1.1, .inl v0.2.2.2.2.2.2.2.1.2))], [(a0.2.2.2.2.2, .inl (cA, v0.2.2.2.2.2.2.2.2.2.2.2.2.1.1, .inl v0.2.2.2.2.2.2.2.2.2.2.2.2.1.2))]]) hx hb hts hown hz hw (by decide +kernel) tyX11 tyX11_ok nmX11 0 rfl rfl 6 (by decide) (hts (.fieldLink RX11 73 "OccupancyMonitorModel" "place" "I") (by decide +kernel)) (fun _ h9 => h9) rfl (by decide +kernel) rfl rfl (Nat.le_of_ble_eq_true rfl) dX11_passes_29 rfl (fun H locs hw => ?_)
      refine lv_iload_n hx hb dX11_passes_32 rfl (lv_at hl 0 rfl) ?_
      obtain ⟨g6, hsp⟩ := grd_of hsp
      have hsp := Option.some.inj hsp
      subst hsp
      have hw : ww A s.heap D [w11 cA a0 (v0.1, v0.2.1, v0.2.2.1, v0.2.2.2.1, v0.2.2.2.2.1, v0.2.2.2.2.2.1, (v0.2.2.2.2.2.2.1 + (1 : Int32)), v0.2.2.2.2.2.2.2.1, v0.2.2.2.2.2.2.2.2.1, v0.2.2.2.2.2.2.2.2.2.1, v0.2.2.2.2.2.2.2.2.2.2.1, v0.2.2.2.2.2.2.2.2.2.2.2.1, v0.2.2.2.2.2.2.2.2.2.2.2.2.1, v0.2.2.2.2.2.2.2.2.2.2.2.2.2)] H locs := hw
      subst hQ
      exact k_zret (v := j3) hx hb hr hlk g6 hw dX11_passes_33
  have hsp := hsj3
  refine lv_icmp_ne (tgt := 12) hx hb dX11_passes_5 (by decide) (fun c7 => ?_) (fun c7 => ?_)
  · have hsp := iff_ c7 hsp
    refine lv_iconst (v := 0) hx hb dX11_passes_12 (by decide) ?_
    have hsp := Option.some.inj hsp
    subst hsp
    exact Jj3 _ _ _ hw (lv_sub hl [0, 1] rfl)
  · have hsp := ift c7 hsp
    refine lv_iconst (v := 1) hx hb dX11_passes_8 (by decide) ?_
    refine lv_goto (tgt := 13) hx hb dX11_passes_9 (by decide) ?_
    have hsp := Option.some.inj hsp
    subst hsp
    exact Jj3 _ _ _ hw (lv_sub hl [0, 1] rfl)
noncomputable def sX11_readsStep (N : Nat) (v0 : V11) : Option (Int32 × V11) := (if v0.2.2.2.2.2.2.2.2.1 = (12 : Int32) then ((sX11_here v0).bind (fun o32 => ((sX11_isFigure o32).bind (fun o33 => (if o33 = 0 then ((sX11_number N v0 (0 : Int32) (31 : Int32)).bind (fun o35 => (if o35.1 = (-1 : Int32) then (some ((0 : Int32), o35.2)) else ((sX11_passes o35.2 (45 : Int32)).bind (fun o37 => (if o37.1 = 0 then ((sX11_passes o37.2 (58 : Int32)).bind (fun o39 => (if o39.1 = 0 then (some ((0 : Int32), o39.2)) else ((sX11_number N o39.2 (1 : Int32) (20 : Int32)).bind (fun o41 => (if o41.1 = (-1 : Int32) then (some ((0 : Int32), o41.2)) else ((sX11_passes o41.2 (59 : Int32)).bind (fun o43 => (if o43.1 = 0 then (some ((0 : Int32), o43.2)) else (grd (vp_in ((3 : Int32) * o43.2.2.2.2.2.2.2.2.2.1) o43.2.2.2.2.2.2.2.2.1.1) (lt_ (upd o43.2.2.2.2.2.2.2.2.1.2 ((3 : Int32) * o43.2.2.2.2.2.2.2.2.2.1).toNatClampNeg o35.1) (fun f46 => (grd (vp_in (((3 : Int32) * o43.2.2.2.2.2.2.2.2.2.1) + (1 : Int32)) o43.2.2.2.2.2.2.2.2.1.1) (lt_ (upd f46 (((3 : Int32) * o43.2.2.2.2.2.2.2.2.2.1) + (1 : Int32)).toNatClampNeg o35.1) (fun f48 => (grd (vp_in (((3 : Int32) * o43.2.2.2.2.2.2.2.2.2.1) + (2 : Int32)) o43.2.2.2.2.2.2.2.2.1.1) (lt_ (upd f48 (((3 : Int32) * o43.2.2.2.2.2.2.2.2.2.1) + (2 : Int32)).toNatClampNeg o41.1) (fun f50 => (some ((1 : Int32), (o43.2.1, o43.2.2.1, o43.2.2.2.1, o43.2.2.2.2.1, o43.2.2.2.2.2.1, o43.2.2.2.2.2.2.1, o43.2.2.2.2.2.2.2.1, (o43.2.2.2.2.2.2.2.2.1.1, f50), (o43.2.2.2.2.2.2.2.2.2.1 + (1 : Int32)), o43.2.2.2.2.2.2.2.2.2.2.1, o43.2.2.2.2.2.2.2.2.2.2.2.1, o43.2.2.2.2.2.2.2.2.2.2.2.2.1, o43.2.2.2.2.2.2.2.2.2.2.2.2.2.1, o43.2.2.2.2.2.2.2.2.2.2.2.2.2.2))))))))))))))))))))) else ((sX11_number N o37.2 o35.1 (31 : Int32)).bind (fun o51 => (if o51.1 = (-1 : Int32) then (some ((0 : Int32), o51.2)) else ((sX11_passes o51.2 (58 : Int32)).bind (fun o53 => (if o53.1 = 0 then (some ((0 : Int32), o53.2)) else ((sX11_number N o53.2 (1 : Int32) (20 : Int32)).bind (fun o55 => (if o55.1 = (-1 : Int32) then (some ((0 : Int32), o55.2)) else ((sX11_passes o55.2 (59 : Int32)).bind (fun o57 => (if o57.1 = 0 then (some ((0 : Int32), o57.2)) else (grd (vp_in ((3 : Int32) * o57.2.2.2.2.2.2.2.2.2.1) o57.2.2.2.2.2.2.2.2.1.1) (lt_ (upd o57.2.2.2.2.2.2.2.2.1.2 ((3 : Int32) * o57.2.2.2.2.2.2.2.2.2.1).toNatClampNeg o35.1) (fun f60 => (grd (vp_in (((3 : Int32) * o57.2.2.2.2.2.2.2.2.2.1) + (1 : Int32)) o57.2.2.2.2.2.2.2.2.1.1) (lt_ (upd f60 (((3 : Int32) * o57.2.2.2.2.2.2.2.2.2.1) + (1 : Int32)).toNatClampNeg o51.1) (fun f62 => (grd (vp_in (((3 : Int32) * o57.2.2.2.2.2.2.2.2.2.1) + (2 : Int32)) o57.2.2.2.2.2.2.2.2.1.1) (lt_ (upd f62 (((3 : Int32) * o57.2.2.2.2.2.2.2.2.2.1) + (2 : Int32)).toNatClampNeg o55.1) (fun f64 => (some ((1 : Int32), (o57.2.1, o57.2.2.1, o57.2.2.2.1, o57.2.2.2.2.1, o57.2.2.2.2.2.1, o57.2.2.2.2.2.2.1, o57.2.2.2.2.2.2.2.1, (o57.2.2.2.2.2.2.2.2.1.1, f64), (o57.2.2.2.2.2.2.2.2.2.1 + (1 : Int32)), o57.2.2.2.2.2.2.2.2.2.2.1, o57.2.2.2.2.2.2.2.2.2.2.2.1, o57.2.2.2.2.2.2.2.2.2.2.2.2.1, o57.2.2.2.2.2.2.2.2.2.2.2.2.2.1, o57.2.2.2.2.2.2.2.2.2.2.2.2.2.2)))))))))))))))))))))))))))))) else (some ((0 : Int32), v0))))))) else ((sX11_number N v0 (0 : Int32) (31 : Int32)).bind (fun o2 => (if o2.1 = (-1 : Int32) then (some ((0 : Int32), o2.2)) else ((sX11_passes o2.2 (45 : Int32)).bind (fun o4 => (if o4.1 = 0 then ((sX11_passes o4.2 (58 : Int32)).bind (fun o6 => (if o6.1 = 0 then (some ((0 : Int32), o6.2)) else ((sX11_number N o6.2 (1 : Int32) (20 : Int32)).bind (fun o8 => (if o8.1 = (-1 : Int32) then (some ((0 : Int32), o8.2)) else ((sX11_passes o8.2 (59 : Int32)).bind (fun o10 => (if o10.1 = 0 then (some ((0 : Int32), o10.2)) else (grd (vp_in ((3 : Int32) * o10.2.2.2.2.2.2.2.2.2.1) o10.2.2.2.2.2.2.2.2.1.1) (lt_ (upd o10.2.2.2.2.2.2.2.2.1.2 ((3 : Int32) * o10.2.2.2.2.2.2.2.2.2.1).toNatClampNeg o2.1) (fun f13 => (grd (vp_in (((3 : Int32) * o10.2.2.2.2.2.2.2.2.2.1) + (1 : Int32)) o10.2.2.2.2.2.2.2.2.1.1) (lt_ (upd f13 (((3 : Int32) * o10.2.2.2.2.2.2.2.2.2.1) + (1 : Int32)).toNatClampNeg o2.1) (fun f15 => (grd (vp_in (((3 : Int32) * o10.2.2.2.2.2.2.2.2.2.1) + (2 : Int32)) o10.2.2.2.2.2.2.2.2.1.1) (lt_ (upd f15 (((3 : Int32) * o10.2.2.2.2.2.2.2.2.2.1) + (2 : Int32)).toNatClampNeg o8.1) (fun f17 => (some ((1 : Int32), (o10.2.1, o10.2.2.1, o10.2.2.2.1, o10.2.2.2.2.1, o10.2.2.2.2.2.1, o10.2.2.2.2.2.2.1, o10.2.2.2.2.2.2.2.1, (o10.2.2.2.2.2.2.2.2.1.1, f17), (o10.2.2.2.2.2.2.2.2.2.1 + (1 : Int32)), o10.2.2.2.2.2.2.2.2.2.2.1, o10.2.2.2.2.2.2.2.2.2.2.2.1, o10.2.2.2.2.2.2.2.2.2.2.2.2.1, o10.2.2.2.2.2.2.2.2.2.2.2.2.2.1, o10.2.2.2.2.2.2.2.2.2.2.2.2.2.2))))))))))))))))))))) else ((sX11_number N o4.2 o2.1 (31 : Int32)).bind (fun o18 => (if o18.1 = (-1 : Int32) then (some ((0 : Int32), o18.2)) else ((sX11_passes o18.2 (58 : Int32)).bind (fun o20 => (if o20.1 = 0 then (some ((0 : Int32), o20.2)) else ((sX11_number N o20.2 (1 : Int32) (20 : Int32)).bind (fun o22 => (if o22.1 = (-1 : Int32) then (some ((0 : Int32), o22.2)) else ((sX11_passes o22.2 (59 : Int32)).bind (fun o24 => (if o24.1 = 0 then (some ((0 : Int32), o24.2)) else (grd (vp_in ((3 : Int32) * o24.2.2.2.2.2.2.2.2.2.1) o24.2.2.2.2.2.2.2.2.1.1) (lt_ (upd o24.2.2.2.2.2.2.2.2.1.2 ((3 : Int32) * o24.2.2.2.2.2.2.2.2.2.1).toNatClampNeg o2.1) (fun f27 => (grd (vp_in (((3 : Int32) * o24.2.2.2.2.2.2.2.2.2.1) + (1 : Int32)) o24.2.2.2.2.2.2.2.2.1.1) (lt_ (upd f27 (((3 : Int32) * o24.2.2.2.2.2.2.2.2.2.1) + (1 : Int32)).toNatClampNeg o18.1) (fun f29 => (grd (vp_in (((3 : Int32) * o24.2.2.2.2.2.2.2.2.2.1) + (2 : Int32)) o24.2.2.2.2.2.2.2.2.1.1) (lt_ (upd f29 (((3 : Int32) * o24.2.2.2.2.2.2.2.2.2.1) + (2 : Int32)).toNatClampNeg o22.1) (fun f31 => (some ((1 : Int32), (o24.2.1, o24.2.2.1, o24.2.2.2.1, o24.2.2.2.2.1, o24.2.2.2.2.2.1, o24.2.2.2.2.2.2.1, o24.2.2.2.2.2.2.2.1, (o24.2.2.2.2.2.2.2.2.1.1, f31), (o24.2.2.2.2.2.2.2.2.2.1 + (1 : Int32)), o24.2.2.2.2.2.2.2.2.2.2.1, o24.2.2.2.2.2.2.2.2.2.2.2.1, o24.2.2.2.2.2.2.2.2.2.2.2.2.1, o24.2.2.2.2.2.2.2.2.2.2.2.2.2.1, o24.2.2.2.2.2.2.2.2.2.2.2.2.2.2)))))))))))))))))))))))))))))))
abbrev rX11_readsStep : Room := { frames := 3, cells := 0, slots := 0, locals := 69 }
set_option maxHeartbeats 4000000 in
set_option maxRecDepth 100000 in
theorem mX11_readsStep (l : Launch) (D : va_G) (cA cR : ClassId) (N : Nat) (a0 : A11) (v0 : V11) (o : Int32 × V11) (hsp : sX11_readsStep N v0 = some o) : MI l yX11_readsStep wsX11_readsStep rX11_readsStep D cA cR [.ref a0.1] [w11 cA a0 v0] (some (.int o.1)) [w11 cA a0 o.2] 0 0 := by
  have hsp : (if v0.2.2.2.2.2.2.2.2.1 = (12 : Int32) then ((sX11_here v0).bind (fun o32 => ((sX11_isFigure o32).bind (fun o33 => (if o33 = 0 then ((sX11_number N v0 (0 : Int32) (31 : Int32)).bind (fun o35 => (if o35.1 = (-1 : Int32) then (some ((0 : Int32), o35.2)) else ((sX11_passes o35.2 (45 : Int32)).bind (fun o37 => (if o37.1 = 0 then ((sX11_passes o37.2 (58 : Int32)).bind (fun o39 => (if o39.1 = 0 then (some ((0 : Int32), o39.2)) else ((sX11_number N o39.2 (1 : Int32) (20 : Int32)).bind (fun o41 => (if o41.1 = (-1 : Int32) then (some ((0 : Int32), o41.2)) else ((sX11_passes o41.2 (59 : Int32)).bind (fun o43 => (if o43.1 = 0 then (some ((0 : Int32), o43.2)) else (grd (vp_in ((3 : Int32) * o43.2.2.2.2.2.2.2.2.2.1) o43.2.2.2.2.2.2.2.2.1.1) (lt_ (upd o43.2.2.2.2.2.2.2.2.1.2 ((3 : Int32) * o43.2.2.2.2.2.2.2.2.2.1).toNatClampNeg o35.1) (fun f46 => (grd (vp_in (((3 : Int32) * o43.2.2.2.2.2.2.2.2.2.1) + (1 : Int32)) o43.2.2.2.2.2.2.2.2.1.1) (lt_ (upd f46 (((3 : Int32) * o43.2.2.2.2.2.2.2.2.2.1) + (1 : Int32)).toNatClampNeg o35.1) (fun f48 => (grd (vp_in (((3 : Int32) * o43.2.2.2.2.2.2.2.2.2.1) + (2 : Int32)) o43.2.2.2.2.2.2.2.2.1.1) (lt_ (upd f48 (((3 : Int32) * o43.2.2.2.2.2.2.2.2.2.1) + (2 : Int32)).toNatClampNeg o41.1) (fun f50 => (some ((1 : Int32), (o43.2.1, o43.2.2.1, o43.2.2.2.1, o43.2.2.2.2.1, o43.2.2.2.2.2.1, o43.2.2.2.2.2.2.1, o43.2.2.2.2.2.2.2.1, (o43.2.2.2.2.2.2.2.2.1.1, f50), (o43.2.2.2.2.2.2.2.2.2.1 + (1 : Int32)), o43.2.2.2.2.2.2.2.2.2.2.1, o43.2.2.2.2.2.2.2.2.2.2.2.1, o43.2.2.2.2.2.2.2.2.2.2.2.2.1, o43.2.2.2.2.2.2.2.2.2.2.2.2.2.1, o43.2.2.2.2.2.2.2.2.2.2.2.2.2.2))))))))))))))))))))) else ((sX11_number N o37.2 o35.1 (31 : Int32)).bind (fun o51 => (if o51.1 = (-1 : Int32) then (some ((0 : Int32), o51.2)) else ((sX11_passes o51.2 (58 : Int32)).bind (fun o53 => (if o53.1 = 0 then (some ((0 : Int32), o53.2)) else ((sX11_number N o53.2 (1 : Int32) (20 : Int32)).bind (fun o55 => (if o55.1 = (-1 : Int32) then (some ((0 : Int32), o55.2)) else ((sX11_passes o55.2 (59 : Int32)).bind (fun o57 => (if o57.1 = 0 then (some ((0 : Int32), o57.2)) else (grd (vp_in ((3 : Int32) * o57.2.2.2.2.2.2.2.2.2.1) o57.2.2.2.2.2.2.2.2.1.1) (lt_ (upd o57.2.2.2.2.2.2.2.2.1.2 ((3 : Int32) * o57.2.2.2.2.2.2.2.2.2.1).toNatClampNeg o35.1) (fun f60 => (grd (vp_in (((3 : Int32) * o57.2.2.2.2.2.2.2.2.2.1) + (1 : Int32)) o57.2.2.2.2.2.2.2.2.1.1) (lt_ (upd f60 (((3 : Int32) * o57.2.2.2.2.2.2.2.2.2.1) + (1 : Int32)).toNatClampNeg o51.1) (fun f62 => (grd (vp_in (((3 : Int32) * o57.2.2.2.2.2.2.2.2.2.1) + (2 : Int32)) o57.2.2.2.2.2.2.2.2.1.1) (lt_ (upd f62 (((3 : Int32) * o57.2.2.2.2.2.2.2.2.2.1) + (2 : Int32)).toNatClampNeg o55.1) (fun f64 => (some ((1 : Int32), (o57.2.1, o57.2.2.1, o57.2.2.2.1, o57.2.2.2.2.1, o57.2.2.2.2.2.1, o57.2.2.2.2.2.2.1, o57.2.2.2.2.2.2.2.1, (o57.2.2.2.2.2.2.2.2.1.1, f64), (o57.2.2.2.2.2.2.2.2.2.1 + (1 : Int32)), o57.2.2.2.2.2.2.2.2.2.2.1, o57.2.2.2.2.2.2.2.2.2.2.2.1, o57.2.2.2.2.2.2.2.2.2.2.2.2.1, o57.2.2.2.2.2.2.2.2.2.2.2.2.2.1, o57.2.2.2.2.2.2.2.2.2.2.2.2.2.2)))))))))))))))))))))))))))))) else (some ((0 : Int32), v0))))))) else ((sX11_number N v0 (0 : Int32) (31 : Int32)).bind (fun o2 => (if o2.1 = (-1 : Int32) then (some ((0 : Int32), o2.2)) else ((sX11_passes o2.2 (45 : Int32)).bind (fun o4 => (if o4.1 = 0 then ((sX11_passes o4.2 (58 : Int32)).bind (fun o6 => (if o6.1 = 0 then (some ((0 : Int32), o6.2)) else ((sX11_number N o6.2 (1 : Int32) (20 : Int32)).bind (fun o8 => (if o8.1 = (-1 : Int32) then (some ((0 : Int32), o8.2)) else ((sX11_passes o8.2 (59 : Int32)).bind (fun o10 => (if o10.1 = 0 then (some ((0 : Int32), o10.2)) else (grd (vp_in ((3 : Int32) * o10.2.2.2.2.2.2.2.2.2.1) o10.2.2.2.2.2.2.2.2.1.1) (lt_ (upd o10.2.2.2.2.2.2.2.2.1.2 ((3 : Int32) * o10.2.2.2.2.2.2.2.2.2.1).toNatClampNeg o2.1) (fun f13 => (grd (vp_in (((3 : Int32) * o10.2.2.2.2.2.2.2.2.2.1) + (1 : Int32)) o10.2.2.2.2.2.2.2.2.1.1) (lt_ (upd f13 (((3 : Int32) * o10.2.2.2.2.2.2.2.2.2.1) + (1 : Int32)).toNatClampNeg o2.1) (fun f15 => (grd (vp_in (((3 : Int32) * o10.2.2.2.2.2.2.2.2.2.1) + (2 : Int32)) o10.2.2.2.2.2.2.2.2.1.1) (lt_ (upd f15 (((3 : Int32) * o10.2.2.2.2.2.2.2.2.2.1) + (2 : Int32)).toNatClampNeg o8.1) (fun f17 => (some ((1 : Int32), (o10.2.1, o10.2.2.1, o10.2.2.2.1, o10.2.2.2.2.1, o10.2.2.2.2.2.1, o10.2.2.2.2.2.2.1, o10.2.2.2.2.2.2.2.1, (o10.2.2.2.2.2.2.2.2.1.1, f17), (o10.2.2.2.2.2.2.2.2.2.1 + (1 : Int32)), o10.2.2.2.2.2.2.2.2.2.2.1, o10.2.2.2.2.2.2.2.2.2.2.2.1, o10.2.2.2.2.2.2.2.2.2.2.2.2.1, o10.2.2.2.2.2.2.2.2.2.2.2.2.2.1, o10.2.2.2.2.2.2.2.2.2.2.2.2.2.2))))))))))))))))))))) else ((sX11_number N o4.2 o2.1 (31 : Int32)).bind (fun o18 => (if o18.1 = (-1 : Int32) then (some ((0 : Int32), o18.2)) else ((sX11_passes o18.2 (58 : Int32)).bind (fun o20 => (if o20.1 = 0 then (some ((0 : Int32), o20.2)) else ((sX11_number N o20.2 (1 : Int32) (20 : Int32)).bind (fun o22 => (if o22.1 = (-1 : Int32) then (some ((0 : Int32), o22.2)) else ((sX11_passes o22.2 (59 : Int32)).bind (fun o24 => (if o24.1 = 0 then (some ((0 : Int32), o24.2)) else (grd (vp_in ((3 : Int32) * o24.2.2.2.2.2.2.2.2.2.1) o24.2.2.2.2.2.2.2.2.1.1) (lt_ (upd o24.2.2.2.2.2.2.2.2.1.2 ((3 : Int32) * o24.2.2.2.2.2.2.2.2.2.1).toNatClampNeg o2.1) (fun f27 => (grd (vp_in (((3 : Int32) * o24.2.2.2.2.2.2.2.2.2.1) + (1 : Int32)) o24.2.2.2.2.2.2.2.2.1.1) (lt_ (upd f27 (((3 : Int32) * o24.2.2.2.2.2.2.2.2.2.1) + (1 : Int32)).toNatClampNeg o18.1) (fun f29 => (grd (vp_in (((3 : Int32) * o24.2.2.2.2.2.2.2.2.2.1) + (2 : Int32)) o24.2.2.2.2.2.2.2.2.1.1) (lt_ (upd f29 (((3 : Int32) * o24.2.2.2.2.2.2.2.2.2.1) + (2 : Int32)).toNatClampNeg o22.1) (fun f31 => (some ((1 : Int32), (o24.2.1, o24.2.2.1, o24.2.2.2.1, o24.2.2.2.2.1, o24.2.2.2.2.2.1, o24.2.2.2.2.2.2.1, o24.2.2.2.2.2.2.2.1, (o24.2.2.2.2.2.2.2.2.1.1, f31), (o24.2.2.2.2.2.2.2.2.2.1 + (1 : Int32)), o24.2.2.2.2.2.2.2.2.2.2.1, o24.2.2.2.2.2.2.2.2.2.2.2.1, o24.2.2.2.2.2.2.2.2.2.2.2.2.1, o24.2.2.2.2.2.2.2.2.2.2.2.2.2.1, o24.2.2.2.2.2.2.2.2.2.2.2.2.2.2))))))))))))))))))))))))))))))) = some o := hsp
  refine MI.ofW (cc := cX11_readsStep) (maxL := 4) (ret := (some .boolean)) (by decide) rfl (Nat.le_of_ble_eq_true rfl) ?_
  intro p e s m args below meth c A ls Q H locs hx hb hr hlk hml hown hnm hts hz hA hQ hw hl
  have hl : lv_has ls 4 [(0, .ref a0.1)] := hl
  have hw : ww A s.heap D [[(a0.1, .inr (11, [.ref a0.2.1, .ref a0.2.2.1, .int v0.2.2.1, .int v0.2.2.2.1, .ref a0.2.2.2.1, .int v0.2.2.2.2.2.1, .int v0.2.2.2.2.2.2.1, .ref a0.2.2.2.2.1, .int v0.2.2.2.2.2.2.2.2.1, .int v0.2.2.2.2.2.2.2.2.2.1, .int v0.2.2.2.2.2.2.2.2.2.2.1, .int v0.2.2.2.2.2.2.2.2.2.2.2.1, .ref a0.2.2.2.2.2, .int v0.2.2.2.2.2.2.2.2.2.2.2.2.2]))], [(a0.2.1, .inl (cA, v0.1.1, .inl v0.1.2))], [(a0.2.2.1, .inl (cA, v0.2.1.1, .inl v0.2.1.2))], [(a0.2.2.2.1, .inl (cA, v0.2.2.2.2.1.1, .inl v0.2.2.2.2.1.2))], [(a0.2.2.2.2.1, .inl (cA, v0.2.2.2.2.2.2.2.1.1, .inl v0.2.2.2.2.2.2.2.1.2))], [(a0.2.2.2.2.2, .inl (cA, v0.2.2.2.2.2.2.2.2.2.2.2.2.1.1, .inl v0.2.2.2.2.2.2.2.2.2.2.2.2.1.2))]] H locs := hw
  refine lv_aload_n hx hb dX11_readsStep_0 rfl (lv_at hl 0 rfl) ?_
  refine k_get (ci := 11) (v := .int v0.2.2.2.2.2.2.2.2.1) (C := RX11) (T := TX11) (N := 14) hx hb hts hown hz hw (by decide +kernel) 0 rfl rfl 8 (by decide) (hts (.fieldLink RX11 87 "OccupancyMonitorModel" "readMany" "I") (by decide +kernel)) (fun _ h9 => h9) rfl dX11_readsStep_1 ?_
  refine lv_bipush (v := 12) hx hb dX11_readsStep_4 (by decide) ?_
  refine lv_icmp_ne (tgt := 21) hx hb dX11_readsStep_6 (by decide) (fun c1 => ?_) (fun c1 => ?_)
  · have hsp := iff_ c1 hsp
    refine lv_aload_n hx hb dX11_readsStep_21 rfl (lv_at hl 0 rfl) ?_
    refine lv_iconst (v := 0) hx hb dX11_readsStep_22 (by decide) ?_
    refine lv_bipush (v := 31) hx hb dX11_readsStep_23 (by decide) ?_
    have hw : ww A s.heap D [w11 cA a0 v0] H locs := hw
    obtain ⟨o2, hso2, hsp⟩ := bnd_of hsp
    refine k_callV (ci := 11) (C := RX11) (T := TX11) (N := 14) (nA := 2) (As := [.int (0 : Int32), .int (31 : Int32)]) (cs := [w11 cA a0 v0]) (rs := []) (cs1 := [w11 cA a0 o2.2]) (bs1 := [w11 cA a0 o2.2]) (rest := []) (st1 := [.int o2.1]) ⟨hx, hb, hml, hown, hts⟩ hz hw hA (mX11_number l D cA cR N a0 v0 (0 : Int32) (31 : Int32) o2 hso2) gX11_readsStep_X11_number rfl rfl rfl (by decide +kernel) rfl ⟨Nat.le_of_ble_eq_true rfl, Nat.le_of_ble_eq_true rfl⟩ rfl rfl hl.1 rfl (Nat.le_of_ble_eq_true rfl) dX11_readsStep_25 ⟨Nat.le_of_ble_eq_true rfl, Nat.le_of_ble_eq_true rfl⟩ [0] [] [0] rfl rfl rfl rfl rfl rfl (fun H locs hw => ?_)
    have hw : ww A s.heap D [[(a0.1, .inr (11, [.ref a0.2.1, .ref a0.2.2.1, .int o2.2.2.2.1, .int o2.2.2.2.2.1, .ref a0.2.2.2.1, .int o2.2.2.2.2.2.2.1, .int o2.2.2.2.2.2.2.2.1, .ref a0.2.2.2.2.1, .int o2.2.2.2.2.2.2.2.2.2.1, .int o2.2.2.2.2.2.2.2.2.2.2.1, .int o2.2.2.2.2.2.2.2.2.2.2.2.1, .int o2.2.2.2.2.2.2.2.2.2.2.2.2.1, .ref a0.2.2.2.2.2, .int o2.2.2.2.2.2.2.2.2.2.2.2.2.2.2]))], [(a0.2.1, .inl (cA, o2.2.1.1, .inl o2.2.1.2))], [(a0.2.2.1, .inl (cA, o2.2.2.1.1, .inl o2.2.2.1.2))], [(a0.2.2.2.1, .inl (cA, o2.2.2.2.2.2.1.1, .inl o2.2.2.2.2.2.1.2))], [(a0.2.2.2.2.1, .inl (cA, o2.2.2.2.2.2.2.2.2.1.1, .inl o2.2.2.2.2.2.2.2.2.1.2))], [(a0.2.2.2.2.2, .inl (cA, o2.2.2.2.2.2.2.2.2.2.2.2.2.2.1.1, .inl o2.2.2.2.2.2.2.2.2.2.2.2.2.2.1.2))]] H locs := hw
    refine lv_istore_n (lv' := [(1, .int o2.1), (0, .ref a0.1)]) hx hb dX11_readsStep_28 rfl hl (by decide) rfl (fun ls hl => ?_)
    refine lv_iload_n hx hb dX11_readsStep_29 rfl (lv_at hl 0 rfl) ?_
    refine lv_iconst (v := -1) hx hb dX11_readsStep_30 (by decide) ?_
    refine lv_icmp_ne (tgt := 36) hx hb dX11_readsStep_31 (by decide) (fun c3 => ?_) (fun c3 => ?_)
    · have hsp := iff_ c3 hsp
      refine lv_iload_n hx hb dX11_readsStep_36 rfl (lv_at hl 0 rfl) ?_
      refine lv_istore_n (lv' := [(2, .int o2.1), (1, .int o2.1), (0, .ref a0.1)]) hx hb dX11_readsStep_37 rfl hl (by decide) rfl (fun ls hl => ?_)
      refine lv_aload_n hx hb dX11_readsStep_38 rfl (lv_at hl 2 rfl) ?_
      refine lv_bipush (v := 45) hx hb dX11_readsStep_39 (by decide) ?_
      have hw : ww A s.heap D [w11 cA a0 o2.2] H locs := hw
      obtain ⟨o4, hso4, hsp⟩ := bnd_of hsp
      refine k_callV (ci := 11) (C := RX11) (T := TX11) (N := 14) (nA := 1) (As := [.int (45 : Int32)]) (cs := [w11 cA a0 o2.2]) (rs := []) (cs1 := [w11 cA a0 o4.2]) (bs1 := [w11 cA a0 o4.2]) (rest := []) (st1 := [.int o4.1]) ⟨hx, hb, hml, hown, hts⟩ hz hw hA (mX11_passes l D cA cR a0 o2.2 (45 : Int32) o4 hso4) gX11_readsStep_X11_passes rfl rfl rfl (by decide +kernel) rfl ⟨Nat.le_of_ble_eq_true rfl, Nat.le_of_ble_eq_true rfl⟩ rfl rfl hl.1 rfl (Nat.le_of_ble_eq_true rfl) dX11_readsStep_41 ⟨Nat.le_of_ble_eq_true rfl, Nat.le_of_ble_eq_true rfl⟩ [0] [] [0] rfl rfl rfl rfl rfl rfl (fun H locs hw => ?_)
      have hw : ww A s.heap D [[(a0.1, .inr (11, [.ref a0.2.1, .ref a0.2.2.1, .int o4.2.2.2.1, .int o4.2.2.2.2.1, .ref a0.2.2.2.1, .int o4.2.2.2.2.2.2.1, .int o4.2.2.2.2.2.2.2.1, .ref a0.2.2.2.2.1, .int o4.2.2.2.2.2.2.2.2.2.1, .int o4.2.2.2.2.2.2.2.2.2.2.1, .int o4.2.2.2.2.2.2.2.2.2.2.2.1, .int o4.2.2.2.2.2.2.2.2.2.2.2.2.1, .ref a0.2.2.2.2.2, .int o4.2.2.2.2.2.2.2.2.2.2.2.2.2.2]))], [(a0.2.1, .inl (cA, o4.2.1.1, .inl o4.2.1.2))], [(a0.2.2.1, .inl (cA, o4.2.2.1.1, .inl o4.2.2.1.2))], [(a0.2.2.2.1, .inl (cA, o4.2.2.2.2.2.1.1, .inl o4.2.2.2.2.2.1.2))], [(a0.2.2.2.2.1, .inl (cA, o4.2.2.2.2.2.2.2.2.1.1, .inl o4.2.2.2.2.2.2.2.2.1.2))], [(a0.2.2.2.2.2, .inl (cA, o4.2.2.2.2.2.2.2.2.2.2.2.2.2.1.1, .inl o4.2.2.2.2.2.2.2.2.2.2.2.2.2.1.2))]] H locs := hw
      refine lv_if_eq (tgt := 62) hx hb dX11_readsStep_44 (by decide) (fun c5 => ?_) (fun c5 => ?_)
      · have hsp := ift c5 hsp
        refine lv_aload_n hx hb dX11_readsStep_62 rfl (lv_at hl 2 rfl) ?_
        refine lv_bipush (v := 58) hx hb dX11_readsStep_63 (by decide) ?_
        have hw : ww A s.heap D [w11 cA a0 o4.2] H locs := hw
        obtain ⟨o6, hso6, hsp⟩ := bnd_of hsp
        refine k_callV (ci := 11) (C := RX11) (T := TX11) (N := 14) (nA := 1) (As := [.int (58 : Int32)]) (cs := [w11 cA a0 o4.2]) (rs := []) (cs1 := [w11 cA a0 o6.2]) (bs1 := [w11 cA a0 o6.2]) (rest := []) (st1 := [.int o6.1]) ⟨hx, hb, hml, hown, hts⟩ hz hw hA (mX11_passes l D cA cR a0 o4.2 (58 : Int32) o6 hso6) gX11_readsStep_X11_passes rfl rfl rfl (by decide +kernel) rfl ⟨Nat.le_of_ble_eq_true rfl, Nat.le_of_ble_eq_true rfl⟩ rfl rfl hl.1 rfl (Nat.le_of_ble_eq_true rfl) dX11_readsStep_65 ⟨Nat.le_of_ble_eq_true rfl, Nat.le_of_ble_eq_true rfl⟩ [0] [] [0] rfl rfl rfl rfl rfl rfl (fun H locs hw => ?_)
        have hw : ww A s.heap D [[(a0.1, .inr (11, [.ref a0.2.1, .ref a0.2.2.1, .int o6.2.2.2.1, .int o6.2.2.2.2.1, .ref a0.2.2.2.1, .int o6.2.2.2.2.2.2.1, .int o6.2.2.2.2.2.2.2.1, .ref a0.2.2.2.2.1, .int o6.2.2.2.2.2.2.2.2.2.1, .int o6.2.2.2.2.2.2.2.2.2.2.1, .int o6.2.2.2.2.2.2.2.2.2.2.2.1, .int o6.2.2.2.2.2.2.2.2.2.2.2.2.1, .ref a0.2.2.2.2.2, .int o6.2.2.2.2.2.2.2.2.2.2.2.2.2.2]))], [(a0.2.1, .inl (cA, o6.2.1.1, .inl o6.2.1.2))], [(a0.2.2.1, .inl (cA, o6.2.2.1.1, .inl o6.2.2.1.2))], [(a0.2.2.2.1, .inl (cA, o6.2.2.2.2.2.1.1, .inl o6.2.2.2.2.2.1.2))], [(a0.2.2.2.2.1, .inl (cA, o6.2.2.2.2.2.2.2.2.1.1, .inl o6.2.2.2.2.2.2.2.2.1.2))], [(a0.2.2.2.2.2, .inl (cA, o6.2.2.2.2.2.2.2.2.2.2.2.2.2.1.1, .inl o6.2.2.2.2.2.2.2.2.2.2.2.2.2.1.2))]] H locs := hw
        refine lv_if_ne (tgt := 73) hx hb dX11_readsStep_68 (by decide) (fun c7 => ?_) (fun c7 => ?_)
        · have hsp := iff_ c7 hsp
          refine lv_aload_n hx hb dX11_readsStep_73 rfl (lv_at hl 2 rfl) ?_
          refine lv_iconst (v := 1) hx hb dX11_readsStep_74 (by decide) ?_
          refine lv_bipush (v := 20) hx hb dX11_readsStep_75 (by decide) ?_
          have hw : ww A s.heap D [w11 cA a0 o6.2] H locs := hw
          obtain ⟨o8, hso8, hsp⟩ := bnd_of hsp
          refine k_callV (ci := 11) (C := RX11) (T := TX11) (N := 14) (nA := 2) (As := [.int (1 : Int32), .int (20 : Int32)]) (cs := [w11 cA a0 o6.2]) (rs := []) (cs1 := [w11 cA a0 o8.2]) (bs1 := [w11 cA a0 o8.2]) (rest := []) (st1 := [.int o8.1]) ⟨hx, hb, hml, hown, hts⟩ hz hw hA (mX11_number l D cA cR N a0 o6.2 (1 : Int32) (20 : Int32) o8 hso8) gX11_readsStep_X11_number rfl rfl rfl (by decide +kernel) rfl ⟨Nat.le_of_ble_eq_true rfl, Nat.le_of_ble_eq_true rfl⟩ rfl rfl hl.1 rfl (Nat.le_of_ble_eq_true rfl) dX11_readsStep_77 ⟨Nat.le_of_ble_eq_true rfl, Nat.le_of_ble_eq_true rfl⟩ [0] [] [0] rfl rfl rfl rfl rfl rfl (fun H locs hw => ?_)
          have hw : ww A s.heap D [[(a0.1, .inr (11, [.ref a0.2.1, .ref a0.2.2.1, .int o8.2.2.2.1, .int o8.2.2.2.2.1, .ref a0.2.2.2.1, .int o8.2.2.2.2.2.2.1, .int o8.2.2.2.2.2.2.2.1, .ref a0.2.2.2.2.1, .int o8.2.2.2.2.2.2.2.2.2.1, .int o8.2.2.2.2.2.2.2.2.2.2.1, .int o8.2.2.2.2.2.2.2.2.2.2.2.1, .int o8.2.2.2.2.2.2.2.2.2.2.2.2.1, .ref a0.2.2.2.2.2, .int o8.2.2.2.2.2.2.2.2.2.2.2.2.2.2]))], [(a0.2.1, .inl (cA, o8.2.1.1, .inl o8.2.1.2))], [(a0.2.2.1, .inl (cA, o8.2.2.1.1, .inl o8.2.2.1.2))], [(a0.2.2.2.1, .inl (cA, o8.2.2.2.2.2.1.1, .inl o8.2.2.2.2.2.1.2))], [(a0.2.2.2.2.1, .inl (cA, o8.2.2.2.2.2.2.2.2.1.1, .inl o8.2.2.2.2.2.2.2.2.1.2))], [(a0.2.2.2.2.2, .inl (cA, o8.2.2.2.2.2.2.2.2.2.2.2.2.2.1.1, .inl o8.2.2.2.2.2.2.2.2.2.2.2.2.2.1.2))]] H locs := hw
          refine lv_istore_n (lv' := [(3, .int o8.1), (2, .int o2.1), (1, .int o2.1), (0, .ref a0.1)]) hx hb dX11_readsStep_80 rfl hl (by decide) rfl (fun ls hl => ?_)
          refine lv_iload_n hx hb dX11_readsStep_81 rfl (lv_at hl 0 rfl) ?_
          refine lv_iconst (v := -1) hx hb dX11_readsStep_82 (by decide) ?_
          refine lv_icmp_eq (tgt := 95) hx hb dX11_readsStep_83 (by decide) (fun c9 => ?_) (fun c9 => ?_)
          · have hsp := ift c9 hsp
            refine lv_iconst (v := 0) hx hb dX11_readsStep_95 (by decide) ?_
            have hsp := Option.some.inj hsp
            subst hsp
            have hw : ww A s.heap D [w11 cA a0 o8.2] H locs := hw
            subst hQ
            exact k_zret (v := (0 : Int32)) hx hb hr hlk rfl hw dX11_readsStep_96
          · have hsp := iff_ c9 hsp
            refine lv_aload_n hx hb dX11_readsStep_86 rfl (lv_at hl 3 rfl) ?_
            refine lv_bipush (v := 59) hx hb dX11_readsStep_87 (by decide) ?_
            have hw : ww A s.heap D [w11 cA a0 o8.2] H locs := hw
            obtain ⟨o10, hso10, hsp⟩ := bnd_of hsp
            refine k_callV (ci := 11) (C := RX11) (T := TX11) (N := 14) (nA := 1) (As := [.int (59 : Int32)]) (cs := [w11 cA a0 o8.2]) (rs := []) (cs1 := [w11 cA a0 o10.2]) (bs1 := [w11 cA a0 o10.2]) (rest := []) (st1 := [.int o10.1]) ⟨hx, hb, hml, hown, hts⟩ hz hw hA (mX11_passes l D cA cR a0 o8.2 (59 : Int32) o10 hso10) gX11_readsStep_X11_passes rfl rfl rfl (by decide +kernel) rfl ⟨Nat.le_of_ble_eq_true rfl, Nat.le_of_ble_eq_true rfl⟩ rfl rfl hl.1 rfl (Nat.le_of_ble_eq_true rfl) dX11_readsStep_89 ⟨Nat.le_of_ble_eq_true rfl, Nat.le_of_ble_eq_true rfl⟩ [0] [] [0] rfl rfl rfl rfl rfl rfl (fun H locs hw => ?_)
            have hw : ww A s.heap D [[(a0.1, .inr (11, [.ref a0.2.1, .ref a0.2.2.1, .int o10.2.2.2.1, .int o10.2.2.2.2.1, .ref a0.2.2.2.1, .int o10.2.2.2.2.2.2.1, .int o10.2.2.2.2.2.2.2.1, .ref a0.2.2.2.2.1, .int o10.2.2.2.2.2.2.2.2.2.1, .int o10.2.2.2.2.2.2.2.2.2.2.1, .int o10.2.2.2.2.2.2.2.2.2.2.2.1, .int o10.2.2.2.2.2.2.2.2.2.2.2.2.1, .ref a0.2.2.2.2.2, .int o10.2.2.2.2.2.2.2.2.2.2.2.2.2.2]))], [(a0.2.1, .inl (cA, o10.2.1.1, .inl o10.2.1.2))], [(a0.2.2.1, .inl (cA, o10.2.2.1.1, .inl o10.2.2.1.2))], [(a0.2.2.2.1, .inl (cA, o10.2.2.2.2.2.1.1, .inl o10.2.2.2.2.2.1.2))], [(a0.2.2.2.2.1, .inl (cA, o10.2.2.2.2.2.2.2.2.1.1, .inl o10.2.2.2.2.2.2.2.2.1.2))], [(a0.2.2.2.2.2, .inl (cA, o10.2.2.2.2.2.2.2.2.2.2.2.2.2.1.1, .inl o10.2.2.2.2.2.2.2.2.2.2.2.2.2.1.2))]] H locs := hw
            refine lv_if_ne (tgt := 97) hx hb dX11_readsStep_92 (by decide) (fun c11 => ?_) (fun c11 => ?_)
            · have hsp := iff_ c11 hsp
              refine lv_aload_n hx hb dX11_readsStep_97 rfl (lv_at hl 3 rfl) ?_
              refine k_get (ci := 11) (v := .ref a0.2.2.2.2.1) (C := RX11) (T := TX11) (N := 14) hx hb hts hown hz hw (by decide +kernel) 0 rfl rfl 7 (by decide) (hts (.fieldLink RX11 19 "OccupancyMonitorModel" "read" "[I") (by decide +kernel)) (fun _ h9 => h9) rfl dX11_readsStep_98 ?_
              refine lv_iconst (v := 3) hx hb dX11_readsStep_101 (by decide) ?_
              refine lv_aload_n hx hb dX11_readsStep_102 rfl (lv_at hl 3 rfl) ?_
              refine k_get (ci := 11) (v := .int o10.2.2.2.2.2.2.2.2.2.1) (C := RX11) (T := TX11) (N := 14) hx hb hts hown hz hw (by decide +kernel) 0 rfl rfl 8 (by decide) (hts (.fieldLink RX11 87 "OccupancyMonitorModel" "readMany" "I") (by decide +kernel)) (fun _ h9 => h9) rfl dX11_readsStep_103 ?_
              refine lv_imul hx hb dX11_readsStep_106 ?_
              refine lv_iload_n hx hb dX11_readsStep_107 rfl (lv_at hl 2 rfl) ?_
              obtain ⟨g12, hsp⟩ := grd_of hsp
              obtain ⟨f13, ef13⟩ : ∃ u : Nat → Int32, u = (upd o10.2.2.2.2.2.2.2.2.1.2 ((3 : Int32) * o10.2.2.2.2.2.2.2.2.2.1).toNatClampNeg o2.1) := ⟨_, rfl⟩
              have hsp := lt_of hsp ef13
              refine k_iast (bs1 := [[(a0.1, .inr (11, [.ref a0.2.1, .ref a0.2.2.1, .int o10.2.2.2.1, .int o10.2.2.2.2.1, .ref a0.2.2.2.1, .int o10.2.2.2.2.2.2.1, .int o10.2.2.2.2.2.2.2.1, .ref a0.2.2.2.2.1, .int o10.2.2.2.2.2.2.2.2.2.1, .int o10.2.2.2.2.2.2.2.2.2.2.1, .int o10.2.2.2.2.2.2.2.2.2.2.2.1, .int o10.2.2.2.2.2.2.2.2.2.2.2.2.1, .ref a0.2.2.2.2.2, .int o10.2.2.2.2.2.2.2.2.2.2.2.2.2.2]))], [(a0.2.1, .inl (cA, o10.2.1.1, .inl o10.2.1.2))], [(a0.2.2.1, .inl (cA, o10.2.2.1.1, .inl o10.2.2.1.2))], [(a0.2.2.2.1, .inl (cA, o10.2.2.2.2.2.1.1, .inl o10.2.2.2.2.2.1.2))], [(a0.2.2.2.2.1, .inl (cA, o10.2.2.2.2.2.2.2.2.1.1, .inl f13))], [(a0.2.2.2.2.2, .inl (cA, o10.2.2.2.2.2.2.2.2.2.2.2.2.2.1.1, .inl o10.2.2.2.2.2.2.2.2.2.2.2.2.2.1.2))]]) hx hb hz hw 4 rfl g12 dX11_readsStep_108 (by rw [ef13]; rfl) (fun H locs hw => ?_)
              refine lv_aload_n hx hb dX11_readsStep_109 rfl (lv_at hl 3 rfl) ?_
              refine k_get (ci := 11) (v := .ref a0.2.2.2.2.1) (C := RX11) (T := TX11) (N := 14) hx hb hts hown hz hw (by decide +kernel) 0 rfl rfl 7 (by decide) (hts (.fieldLink RX11 19 "OccupancyMonitorModel" "read" "[I") (by decide +kernel)) (fun _ h9 => h9) rfl dX11_readsStep_110 ?_
              refine lv_iconst (v := 3) hx hb dX11_readsStep_113 (by decide) ?_
              refine lv_aload_n hx hb dX11_readsStep_114 rfl (lv_at hl 3 rfl) ?_
              refine k_get (ci := 11) (v := .int o10.2.2.2.2.2.2.2.2.2.1) (C := RX11) (T := TX11) (N := 14) hx hb hts hown hz hw (by decide +kernel) 0 rfl rfl 8 (by decide) (hts (.fieldLink RX11 87 "OccupancyMonitorModel" "readMany" "I") (by decide +kernel)) (fun _ h9 => h9) rfl dX11_readsStep_115 ?_
              refine lv_imul hx hb dX11_readsStep_118 ?_
              refine lv_iconst (v := 1) hx hb dX11_readsStep_119 (by decide) ?_
              refine lv_iadd hx hb dX11_readsStep_120 ?_
              refine lv_iload_n hx hb dX11_readsStep_121 rfl (lv_at hl 1 rfl) ?_
              obtain ⟨g14, hsp⟩ := grd_of hsp
              obtain ⟨f15, ef15⟩ : ∃ u : Nat → Int32, u = (upd f13 (((3 : Int32) * o10.2.2.2.2.2.2.2.2.2.1) + (1 : Int32)).toNatClampNeg o2.1) := ⟨_, rfl⟩
              have hsp := lt_of hsp ef15
              refine k_iast (bs1 := [[(a0.1, .inr (11, [.ref a0.2.1, .ref a0.2.2.1, .int o10.2.2.2.1, .int o10.2.2.2.2.1, .ref a0.2.2.2.1, .int o10.2.2.2.2.2.2.1, .int o10.2.2.2.2.2.2.2.1, .ref a0.2.2.2.2.1, .int o10.2.2.2.2.2.2.2.2.2.1, .int o10.2.2.2.2.2.2.2.2.2.2.1, .int o10.2.2.2.2.2.2.2.2.2.2.2.1, .int o10.2.2.2.2.2.2.2.2.2.2.2.2.1, .ref a0.2.2.2.2.2, .int o10.2.2.2.2.2.2.2.2.2.2.2.2.2.2]))], [(a0.2.1, .inl (cA, o10.2.1.1, .inl o10.2.1.2))], [(a0.2.2.1, .inl (cA, o10.2.2.1.1, .inl o10.2.2.1.2))], [(a0.2.2.2.1, .inl (cA, o10.2.2.2.2.2.1.1, .inl o10.2.2.2.2.2.1.2))], [(a0.2.2.2.2.1, .inl (cA, o10.2.2.2.2.2.2.2.2.1.1, .inl f15))], [(a0.2.2.2.2.2, .inl (cA, o10.2.2.2.2.2.2.2.2.2.2.2.2.2.1.1, .inl o10.2.2.2.2.2.2.2.2.2.2.2.2.2.1.2))]]) hx hb hz hw 4 rfl g14 dX11_readsStep_122 (by rw [ef15]; rfl) (fun H locs hw => ?_)
              refine lv_aload_n hx hb dX11_readsStep_123 rfl (lv_at hl 3 rfl) ?_
              refine k_get (ci := 11) (v := .ref a0.2.2.2.2.1) (C := RX11) (T := TX11) (N := 14) hx hb hts hown hz hw (by decide +kernel) 0 rfl rfl 7 (by decide) (hts (.fieldLink RX11 19 "OccupancyMonitorModel" "read" "[I") (by decide +kernel)) (fun _ h9 => h9) rfl dX11_readsStep_124 ?_
              refine lv_iconst (v := 3) hx hb dX11_readsStep_127 (by decide) ?_
              refine lv_aload_n hx hb dX11_readsStep_128 rfl (lv_at hl 3 rfl) ?_
              refine k_get (ci := 11) (v := .int o10.2.2.2.2.2.2.2.2.2.1) (C := RX11) (T := TX11) (N := 14) hx hb hts hown hz hw (by decide +kernel) 0 rfl rfl 8 (by decide) (hts (.fieldLink RX11 87 "OccupancyMonitorModel" "readMany" "I") (by decide +kernel)) (fun _ h9 => h9) rfl dX11_readsStep_129 ?_
              refine lv_imul hx hb dX11_readsStep_132 ?_
              refine lv_iconst (v := 2) hx hb dX11_readsStep_133 (by decide) ?_
              refine lv_iadd hx hb dX11_readsStep_134 ?_
              refine lv_iload_n hx hb dX11_readsStep_135 rfl (lv_at hl 0 rfl) ?_
              obtain ⟨g16, hsp⟩ := grd_of hsp
              obtain ⟨f17, ef17⟩ : ∃ u : Nat → Int32, u = (upd f15 (((3 : Int32) * o10.2.2.2.2.2.2.2.2.2.1) + (2 : Int32)).toNatClampNeg o8.1) := ⟨_, rfl⟩
              have hsp := lt_of hsp ef17
              refine k_iast (bs1 := [[(a0.1, .inr (11, [.ref a0.2.1, .ref a0.2.2.1, .int o10.2.2.2.1, .int o10.2.2.2.2.1, .ref a0.2.2.2.1, .int o10.2.2.2.2.2.2.1, .int o10.2.2.2.2.2.2.2.1, .ref a0.2.2.2.2.1, .int o10.2.2.2.2.2.2.2.2.2.1, .int o10.2.2.2.2.2.2.2.2.2.2.1, .int o10.2.2.2.2.2.2.2.2.2.2.2.1, .int o10.2.2.2.2.2.2.2.2.2.2.2.2.1, .ref a0.2.2.2.2.2, .int o10.2.2.2.2.2.2.2.2.2.2.2.2.2.2]))], [(a0.2.1, .inl (cA, o10.2.1.1, .inl o10.2.1.2))], [(a0.2.2.1, .inl (cA, o10.2.2.1.1, .inl o10.2.2.1.2))], [(a0.2.2.2.1, .inl (cA, o10.2.2.2.2.2.1.1, .inl o10.2.2.2.2.2.1.2))], [(a0.2.2.2.2.1, .inl (cA, o10.2.2.2.2.2.2.2.2.1.1, .inl f17))], [(a0.2.2.2.2.2, .inl (cA, o10.2.2.2.2.2.2.2.2.2.2.2.2.2.1.1, .inl o10.2.2.2.2.2.2.2.2.2.2.2.2.2.1.2))]]) hx hb hz hw 4 rfl g16 dX11_readsStep_136 (by rw [ef17]; rfl) (fun H locs hw => ?_)
              refine lv_aload_n hx hb dX11_readsStep_137 rfl (lv_at hl 3 rfl) ?_
              refine lv_dup hx hb dX11_readsStep_138 rfl ?_
              refine k_get (ci := 11) (v := .int o10.2.2.2.2.2.2.2.2.2.1) (C := RX11) (T := TX11) (N := 14) hx hb hts hown hz hw (by decide +kernel) 0 rfl rfl 8 (by decide) (hts (.fieldLink RX11 87 "OccupancyMonitorModel" "readMany" "I") (by decide +kernel)) (fun _ h9 => h9) rfl dX11_readsStep_139 ?_
              refine lv_iconst (v := 1) hx hb dX11_readsStep_142 (by decide) ?_
              refine lv_iadd hx hb dX11_readsStep_143 ?_
              refine k_put (ci := 11) (v := .int (o10.2.2.2.2.2.2.2.2.2.1 + (1 : Int32))) (ty := .int) (C := RX11) (T := TX11) (N := 14) (bs1 := [[(a0.1, .inr (11, [.ref a0.2.1, .ref a0.2.2.1, .int o10.2.2.2.1, .int o10.2.2.2.2.1, .ref a0.2.2.2.1, .int o10.2.2.2.2.2.2.1, .int o10.2.2.2.2.2.2.2.1, .ref a0.2.2.2.2.1, .int (o10.2.2.2.2.2.2.2.2.2.1 + (1 : Int32)), .int o10.2.2.2.2.2.2.2.2.2.2.1, .int o10.2.2.2.2.2.2.2.2.2.2.2.1, .int o10.2.2.2.2.2.2.2.2.2.2.2.2.1, .ref a0.2.2.2.2.2, .int o10.2.2.2.2.2.2.2.2.2.2.2.2.2.2]))], [(a0.2.1, .inl (cA, o10.2.1.1, .inl o10.2.1.2))], [(a0.2.2.1, .inl (cA, o10.2.2.1.1, .inl o10.2.2.1.2))], [(a0.2.2.2.1, .inl (cA, o10.2.2.2.2.2.1.1, .inl o10.2.2.2.2.2.1.2))], [(a0.2.2.2.2.1, .inl (cA, o10.2.2.2.2.2.2.2.2.1.1, .inl f17))], [(a0.2.2.2.2.2, .inl (cA, o10.2.2.2.2.2.2.2.2.2.2.2.2.2.1.1, .inl o10.2.2.2.2.2.2.2.2.2.2.2.2.2.1.2))]]) hx hb hts hown hz hw (by decide +kernel) tyX11 tyX11_ok nmX11 0 rfl rfl 8 (by decide) (hts (.fieldLink RX11 87 "OccupancyMonitorModel" "readMany" "I") (by decide +kernel)) (fun _ h9 => h9) rfl (by decide +kernel) rfl rfl (Nat.le_of_ble_eq_true rfl) dX11_readsStep_144 rfl (fun H locs hw => ?_)
              refine lv_iconst (v := 1) hx hb dX11_readsStep_147 (by decide) ?_
              have hsp := Option.some.inj hsp
              subst hsp
              have hw : ww A s.heap D [w11 cA a0 (o10.2.1, o10.2.2.1, o10.2.2.2.1, o10.2.2.2.2.1, o10.2.2.2.2.2.1, o10.2.2.2.2.2.2.1, o10.2.2.2.2.2.2.2.1, (o10.2.2.2.2.2.2.2.2.1.1, f17), (o10.2.2.2.2.2.2.2.2.2.1 + (1 : Int32)), o10.2.2.2.2.2.2.2.2.2.2.1, o10.2.2.2.2.2.2.2.2.2.2.2.1, o10.2.2.2.2.2.2.2.2.2.2.2.2.1, o10.2.2.2.2.2.2.2.2.2.2.2.2.2.1, o10.2.2.2.2.2.2.2.2.2.2.2.2.2.2)] H locs := hw
              subst hQ
              exact k_zret (v := (1 : Int32)) hx hb hr hlk rfl hw dX11_readsStep_148
            · have hsp := ift c11 hsp
              refine lv_iconst (v := 0) hx hb dX11_readsStep_95 (by decide) ?_
              have hsp := Option.some.inj hsp
              subst hsp
              have hw : ww A s.heap D [w11 cA a0 o10.2] H locs := hw
              subst hQ
              exact k_zret (v := (0 : Int32)) hx hb hr hlk rfl hw dX11_readsStep_96
        · have hsp := ift c7 hsp
          refine lv_iconst (v := 0) hx hb dX11_readsStep_71 (by decide) ?_
          have hsp := Option.some.inj hsp
          subst hsp
          have hw : ww A s.heap D [w11 cA a0 o6.2] H locs := hw
          subst hQ
          exact k_zret (v := (0 : Int32)) hx hb hr hlk rfl hw dX11_readsStep_72
      · have hsp := iff_ c5 hsp
        refine lv_aload_n hx hb dX11_readsStep_47 rfl (lv_at hl 2 rfl) ?_
        refine lv_iload_n hx hb dX11_readsStep_48 rfl (lv_at hl 1 rfl) ?_
        refine lv_bipush (v := 31) hx hb dX11_readsStep_49 (by decide) ?_
        have hw : ww A s.heap D [w11 cA a0 o4.2] H locs := hw
        obtain ⟨o18, hso18, hsp⟩ := bnd_of hsp
        refine k_callV (ci := 11) (C := RX11) (T := TX11) (N := 14) (nA := 2) (As := [.int o2.1, .int (31 : Int32)]) (cs := [w11 cA a0 o4.2]) (rs := []) (cs1 := [w11 cA a0 o18.2]) (bs1 := [w11 cA a0 o18.2]) (rest := []) (st1 := [.int o18.1]) ⟨hx, hb, hml, hown, hts⟩ hz hw hA (mX11_number l D cA cR N a0 o4.2 o2.1 (31 : Int32) o18 hso18) gX11_readsStep_X11_number rfl rfl rfl (by decide +kernel) rfl ⟨Nat.le_of_ble_eq_true rfl, Nat.le_of_ble_eq_true rfl⟩ rfl rfl hl.1 rfl (Nat.le_of_ble_eq_true rfl) dX11_readsStep_51 ⟨Nat.le_of_ble_eq_true rfl, Nat.le_of_ble_eq_true rfl⟩ [0] [] [0] rfl rfl rfl rfl rfl rfl (fun H locs hw => ?_)
        have hw : ww A s.heap D [[(a0.1, .inr (11, [.ref a0.2.1, .ref a0.2.2.1, .int o18.2.2.2.1, .int o18.2.2.2.2.1, .ref a0.2.2.2.1, .int o18.2.2.2.2.2.2.1, .int o18.2.2.2.2.2.2.2.1, .ref a0.2.2.2.2.1, .int o18.2.2.2.2.2.2.2.2.2.1, .int o18.2.2.2.2.2.2.2.2.2.2.1, .int o18.2.2.2.2.2.2.2.2.2.2.2.1, .int o18.2.2.2.2.2.2.2.2.2.2.2.2.1, .ref a0.2.2.2.2.2, .int o18.2.2.2.2.2.2.2.2.2.2.2.2.2.2]))], [(a0.2.1, .inl (cA, o18.2.1.1, .inl o18.2.1.2))], [(a0.2.2.1, .inl (cA, o18.2.2.1.1, .inl o18.2.2.1.2))], [(a0.2.2.2.1, .inl (cA, o18.2.2.2.2.2.1.1, .inl o18.2.2.2.2.2.1.2))], [(a0.2.2.2.2.1, .inl (cA, o18.2.2.2.2.2.2.2.2.1.1, .inl o18.2.2.2.2.2.2.2.2.1.2))], [(a0.2.2.2.2.2, .inl (cA, o18.2.2.2.2.2.2.2.2.2.2.2.2.2.1.1, .inl o18.2.2.2.2.2.2.2.2.2.2.2.2.2.1.2))]] H locs := hw
        refine lv_istore_n (lv' := [(2, .int o18.1), (1, .int o2.1), (0, .ref a0.1)]) hx hb dX11_readsStep_54 rfl hl (by decide) rfl (fun ls hl => ?_)
        refine lv_iload_n hx hb dX11_readsStep_55 rfl (lv_at hl 0 rfl) ?_
        refine lv_iconst (v := -1) hx hb dX11_readsStep_56 (by decide) ?_
        refine lv_icmp_ne (tgt := 62) hx hb dX11_readsStep_57 (by decide) (fun c19 => ?_) (fun c19 => ?_)
        · have hsp := iff_ c19 hsp
          refine lv_aload_n hx hb dX11_readsStep_62 rfl (lv_at hl 2 rfl) ?_
          refine lv_bipush (v := 58) hx hb dX11_readsStep_63 (by decide) ?_
          have hw : ww A s.heap D [w11 cA a0 o18.2] H locs := hw
          obtain ⟨o20, hso20, hsp⟩ := bnd_of hsp
          refine k_callV (ci := 11) (C := RX11) (T := TX11) (N := 14) (nA := 1) (As := [.int (58 : Int32)]) (cs := [w11 cA a0 o18.2]) (rs := []) (cs1 := [w11 cA a0 o20.2]) (bs1 := [w11 cA a0 o20.2]) (rest := []) (st1 := [.int o20.1]) ⟨hx, hb, hml, hown, hts⟩ hz hw hA (mX11_passes l D cA cR a0 o18.2 (58 : Int32) o20 hso20) gX11_readsStep_X11_passes rfl rfl rfl (by decide +kernel) rfl ⟨Nat.le_of_ble_eq_true rfl, Nat.le_of_ble_eq_true rfl⟩ rfl rfl hl.1 rfl (Nat.le_of_ble_eq_true rfl) dX11_readsStep_65 ⟨Nat.le_of_ble_eq_true rfl, Nat.le_of_ble_eq_true rfl⟩ [0] [] [0] rfl rfl rfl rfl rfl rfl (fun H locs hw => ?_)
          have hw : ww A s.heap D [[(a0.1, .inr (11, [.ref a0.2.1, .ref a0.2.2.1, .int o20.2.2.2.1, .int o20.2.2.2.2.1, .ref a0.2.2.2.1, .int o20.2.2.2.2.2.2.1, .int o20.2.2.2.2.2.2.2.1, .ref a0.2.2.2.2.1, .int o20.2.2.2.2.2.2.2.2.2.1, .int o20.2.2.2.2.2.2.2.2.2.2.1, .int o20.2.2.2.2.2.2.2.2.2.2.2.1, .int o20.2.2.2.2.2.2.2.2.2.2.2.2.1, .ref a0.2.2.2.2.2, .int o20.2.2.2.2.2.2.2.2.2.2.2.2.2.2]))], [(a0.2.1, .inl (cA, o20.2.1.1, .inl o20.2.1.2))], [(a0.2.2.1, .inl (cA, o20.2.2.1.1, .inl o20.2.2.1.2))], [(a0.2.2.2.1, .inl (cA, o20.2.2.2.2.2.1.1, .inl o20.2.2.2.2.2.1.2))], [(a0.2.2.2.2.1, .inl (cA, o20.2.2.2.2.2.2.2.2.1.1, .inl o20.2.2.2.2.2.2.2.2.1.2))], [(a0.2.2.2.2.2, .inl (cA, o20.2.2.2.2.2.2.2.2.2.2.2.2.2.1.1, .inl o20.2.2.2.2.2.2.2.2.2.2.2.2.2.1.2))]] H locs := hw
          refine lv_if_ne (tgt := 73) hx hb dX11_readsStep_68 (by decide) (fun c21 => ?_) (fun c21 => ?_)
          · have hsp := iff_ c21 hsp
            refine lv_aload_n hx hb dX11_readsStep_73 rfl (lv_at hl 2 rfl) ?_
            refine lv_iconst (v := 1) hx hb dX11_readsStep_74 (by decide) ?_
            refine lv_bipush (v := 20) hx hb dX11_readsStep_75 (by decide) ?_
            have hw : ww A s.heap D [w11 cA a0 o20.2] H locs := hw
            obtain ⟨o22, hso22, hsp⟩ := bnd_of hsp
            refine k_callV (ci := 11) (C := RX11) (T := TX11) (N := 14) (nA := 2) (As := [.int (1 : Int32), .int (20 : Int32)]) (cs := [w11 cA a0 o20.2]) (rs := []) (cs1 := [w11 cA a0 o22.2]) (bs1 := [w11 cA a0 o22.2]) (rest := []) (st1 := [.int o22.1]) ⟨hx, hb, hml, hown, hts⟩ hz hw hA (mX11_number l D cA cR N a0 o20.2 (1 : Int32) (20 : Int32) o22 hso22) gX11_readsStep_X11_number rfl rfl rfl (by decide +kernel) rfl ⟨Nat.le_of_ble_eq_true rfl, Nat.le_of_ble_eq_true rfl⟩ rfl rfl hl.1 rfl (Nat.le_of_ble_eq_true rfl) dX11_readsStep_77 ⟨Nat.le_of_ble_eq_true rfl, Nat.le_of_ble_eq_true rfl⟩ [0] [] [0] rfl rfl rfl rfl rfl rfl (fun H locs hw => ?_)
            have hw : ww A s.heap D [[(a0.1, .inr (11, [.ref a0.2.1, .ref a0.2.2.1, .int o22.2.2.2.1, .int o22.2.2.2.2.1, .ref a0.2.2.2.1, .int o22.2.2.2.2.2.2.1, .int o22.2.2.2.2.2.2.2.1, .ref a0.2.2.2.2.1, .int o22.2.2.2.2.2.2.2.2.2.1, .int o22.2.2.2.2.2.2.2.2.2.2.1, .int o22.2.2.2.2.2.2.2.2.2.2.2.1, .int o22.2.2.2.2.2.2.2.2.2.2.2.2.1, .ref a0.2.2.2.2.2, .int o22.2.2.2.2.2.2.2.2.2.2.2.2.2.2]))], [(a0.2.1, .inl (cA, o22.2.1.1, .inl o22.2.1.2))], [(a0.2.2.1, .inl (cA, o22.2.2.1.1, .inl o22.2.2.1.2))], [(a0.2.2.2.1, .inl (cA, o22.2.2.2.2.2.1.1, .inl o22.2.2.2.2.2.1.2))], [(a0.2.2.2.2.1, .inl (cA, o22.2.2.2.2.2.2.2.2.1.1, .inl o22.2.2.2.2.2.2.2.2.1.2))], [(a0.2.2.2.2.2, .inl (cA, o22.2.2.2.2.2.2.2.2.2.2.2.2.2.1.1, .inl o22.2.2.2.2.2.2.2.2.2.2.2.2.2.1.2))]] H locs := hw
            refine lv_istore_n (lv' := [(3, .int o22.1), (2, .int o18.1), (1, .int o2.1), (0, .ref a0.1)]) hx hb dX11_readsStep_80 rfl hl (by decide) rfl (fun ls hl => ?_)
            refine lv_iload_n hx hb dX11_readsStep_81 rfl (lv_at hl 0 rfl) ?_
            refine lv_iconst (v := -1) hx hb dX11_readsStep_82 (by decide) ?_
            refine lv_icmp_eq (tgt := 95) hx hb dX11_readsStep_83 (by decide) (fun c23 => ?_) (fun c23 => ?_)
            · have hsp := ift c23 hsp
              refine lv_iconst (v := 0) hx hb dX11_readsStep_95 (by decide) ?_
              have hsp := Option.some.inj hsp
              subst hsp
              have hw : ww A s.heap D [w11 cA a0 o22.2] H locs := hw
              subst hQ
              exact k_zret (v := (0 : Int32)) hx hb hr hlk rfl hw dX11_readsStep_96
            · have hsp := iff_ c23 hsp
              refine lv_aload_n hx hb dX11_readsStep_86 rfl (lv_at hl 3 rfl) ?_
              refine lv_bipush (v := 59) hx hb dX11_readsStep_87 (by decide) ?_
              have hw : ww A s.heap D [w11 cA a0 o22.2] H locs := hw
              obtain ⟨o24, hso24, hsp⟩ := bnd_of hsp
              refine k_callV (ci := 11) (C := RX11) (T := TX11) (N := 14) (nA := 1) (As := [.int (59 : Int32)]) (cs := [w11 cA a0 o22.2]) (rs := []) (cs1 := [w11 cA a0 o24.2]) (bs1 := [w11 cA a0 o24.2]) (rest := []) (st1 := [.int o24.1]) ⟨hx, hb, hml, hown, hts⟩ hz hw hA (mX11_passes l D cA cR a0 o22.2 (59 : Int32) o24 hso24) gX11_readsStep_X11_passes rfl rfl rfl (by decide +kernel) rfl ⟨Nat.le_of_ble_eq_true rfl, Nat.le_of_ble_eq_true rfl⟩ rfl rfl hl.1 rfl (Nat.le_of_ble_eq_true rfl) dX11_readsStep_89 ⟨Nat.le_of_ble_eq_true rfl, Nat.le_of_ble_eq_true rfl⟩ [0] [] [0] rfl rfl rfl rfl rfl rfl (fun H locs hw => ?_)
              have hw : ww A s.heap D [[(a0.1, .inr (11, [.ref a0.2.1, .ref a0.2.2.1, .int o24.2.2.2.1, .int o24.2.2.2.2.1, .ref a0.2.2.2.1, .int o24.2.2.2.2.2.2.1, .int o24.2.2.2.2.2.2.2.1, .ref a0.2.2.2.2.1, .int o24.2.2.2.2.2.2.2.2.2.1, .int o24.2.2.2.2.2.2.2.2.2.2.1, .int o24.2.2.2.2.2.2.2.2.2.2.2.1, .int o24.2.2.2.2.2.2.2.2.2.2.2.2.1, .ref a0.2.2.2.2.2, .int o24.2.2.2.2.2.2.2.2.2.2.2.2.2.2]))], [(a0.2.1, .inl (cA, o24.2.1.1, .inl o24.2.1.2))], [(a0.2.2.1, .inl (cA, o24.2.2.1.1, .inl o24.2.2.1.2))], [(a0.2.2.2.1, .inl (cA, o24.2.2.2.2.2.1.1, .inl o24.2.2.2.2.2.1.2))], [(a0.2.2.2.2.1, .inl (cA, o24.2.2.2.2.2.2.2.2.1.1, .inl o24.2.2.2.2.2.2.2.2.1.2))], [(a0.2.2.2.2.2, .inl (cA, o24.2.2.2.2.2.2.2.2.2.2.2.2.2.1.1, .inl o24.2.2.2.2.2.2.2.2.2.2.2.2.2.1.2))]] H locs := hw
              refine lv_if_ne (tgt := 97) hx hb dX11_readsStep_92 (by decide) (fun c25 => ?_) (fun c25 => ?_)
              · have hsp := iff_ c25 hsp
                refine lv_aload_n hx hb dX11_readsStep_97 rfl (lv_at hl 3 rfl) ?_
                refine k_get (ci := 11) (v := .ref a0.2.2.2.2.1) (C := RX11) (T := TX11) (N := 14) hx hb hts hown hz hw (by decide +kernel) 0 rfl rfl 7 (by decide) (hts (.fieldLink RX11 19 "OccupancyMonitorModel" "read" "[I") (by decide +kernel)) (fun _ h9 => h9) rfl dX11_readsStep_98 ?_
                refine lv_iconst (v := 3) hx hb dX11_readsStep_101 (by decide) ?_
                refine lv_aload_n hx hb dX11_readsStep_102 rfl (lv_at hl 3 rfl) ?_
                refine k_get (ci := 11) (v := .int o24.2.2.2.2.2.2.2.2.2.1) (C := RX11) (T := TX11) (N := 14) hx hb hts hown hz hw (by decide +kernel) 0 rfl rfl 8 (by decide) (hts (.fieldLink RX11 87 "OccupancyMonitorModel" "readMany" "I") (by decide +kernel)) (fun _ h9 => h9) rfl dX11_readsStep_103 ?_
                refine lv_imul hx hb dX11_readsStep_106 ?_
                refine lv_iload_n hx hb dX11_readsStep_107 rfl (lv_at hl 2 rfl) ?_
                obtain ⟨g26, hsp⟩ := grd_of hsp
                obtain ⟨f27, ef27⟩ : ∃ u : Nat → Int32, u = (upd o24.2.2.2.2.2.2.2.2.1.2 ((3 : Int32) * o24.2.2.2.2.2.2.2.2.2.1).toNatClampNeg o2.1) := ⟨_, rfl⟩
                have hsp := lt_of hsp ef27
                refine k_iast (bs1 := [[(a0.1, .inr (11, [.ref a0.2.1, .ref a0.2.2.1, .int o24.2.2.2.1, .int o24.2.2.2.2.1, .ref a0.2.2.2.1, .int o24.2.2.2.2.2.2.1, .int o24.2.2.2.2.2.2.2.1, .ref a0.2.2.2.2.1, .int o24.2.2.2.2.2.2.2.2.2.1, .int o24.2.2.2.2.2.2.2.2.2.2.1, .int o24.2.2.2.2.2.2.2.2.2.2.2.1, .int o24.2.2.2.2.2.2.2.2.2.2.2.2.1, .ref a0.2.2.2.2.2, .int o24.2.2.2.2.2.2.2.2.2.2.2.2.2.2]))], [(a0.2.1, .inl (cA, o24.2.1.1, .inl o24.2.1.2))], [(a0.2.2.1, .inl (cA, o24.2.2.1.1, .inl o24.2.2.1.2))], [(a0.2.2.2.1, .inl (cA, o24.2.2.2.2.2.1.1, .inl o24.2.2.2.2.2.1.2))], [(a0.2.2.2.2.1, .inl (cA, o24.2.2.2.2.2.2.2.2.1.1, .inl f27))], [(a0.2.2.2.2.2, .inl (cA, o24.2.2.2.2.2.2.2.2.2.2.2.2.2.1.1, .inl o24.2.2.2.2.2.2.2.2.2.2.2.2.2.1.2))]]) hx hb hz hw 4 rfl g26 dX11_readsStep_108 (by rw [ef27]; rfl) (fun H locs hw => ?_)
                refine lv_aload_n hx hb dX11_readsStep_109 rfl (lv_at hl 3 rfl) ?_
                refine k_get (ci := 11) (v := .ref a0.2.2.2.2.1) (C := RX11) (T := TX11) (N := 14) hx hb hts hown hz hw (by decide +kernel) 0 rfl rfl 7 (by decide) (hts (.fieldLink RX11 19 "OccupancyMonitorModel" "read" "[I") (by decide +kernel)) (fun _ h9 => h9) rfl dX11_readsStep_110 ?_
                refine lv_iconst (v := 3) hx hb dX11_readsStep_113 (by decide) ?_
                refine lv_aload_n hx hb dX11_readsStep_114 rfl (lv_at hl 3 rfl) ?_
                refine k_get (ci := 11) (v := .int o24.2.2.2.2.2.2.2.2.2.1) (C := RX11) (T := TX11) (N := 14) hx hb hts hown hz hw (by decide +kernel) 0 rfl rfl 8 (by decide) (hts (.fieldLink RX11 87 "OccupancyMonitorModel" "readMany" "I") (by decide +kernel)) (fun _ h9 => h9) rfl dX11_readsStep_115 ?_
                refine lv_imul hx hb dX11_readsStep_118 ?_
                refine lv_iconst (v := 1) hx hb dX11_readsStep_119 (by decide) ?_
                refine lv_iadd hx hb dX11_readsStep_120 ?_
                refine lv_iload_n hx hb dX11_readsStep_121 rfl (lv_at hl 1 rfl) ?_
                obtain ⟨g28, hsp⟩ := grd_of hsp
                obtain ⟨f29, ef29⟩ : ∃ u : Nat → Int32, u = (upd f27 (((3 : Int32) * o24.2.2.2.2.2.2.2.2.2.1) + (1 : Int32)).toNatClampNeg o18.1) := ⟨_, rfl⟩
                have hsp := lt_of hsp ef29
                refine k_iast (bs1 := [[(a0.1, .inr (11, [.ref a0.2.1, .ref a0.2.2.1, .int o24.2.2.2.1, .int o24.2.2.2.2.1, .ref a0.2.2.2.1, .int o24.2.2.2.2.2.2.1, .int o24.2.2.2.2.2.2.2.1, .ref a0.2.2.2.2.1, .int o24.2.2.2.2.2.2.2.2.2.1, .int o24.2.2.2.2.2.2.2.2.2.2.1, .int o24.2.2.2.2.2.2.2.2.2.2.2.1, .int o24.2.2.2.2.2.2.2.2.2.2.2.2.1, .ref a0.2.2.2.2.2, .int o24.2.2.2.2.2.2.2.2.2.2.2.2.2.2]))], [(a0.2.1, .inl (cA, o24.2.1.1, .inl o24.2.1.2))], [(a0.2.2.1, .inl (cA, o24.2.2.1.1, .inl o24.2.2.1.2))], [(a0.2.2.2.1, .inl (cA, o24.2.2.2.2.2.1.1, .inl o24.2.2.2.2.2.1.2))], [(a0.2.2.2.2.1, .inl (cA, o24.2.2.2.2.2.2.2.2.1.1, .inl f29))], [(a0.2.2.2.2.2, .inl (cA, o24.2.2.2.2.2.2.2.2.2.2.2.2.2.1.1, .inl o24.2.2.2.2.2.2.2.2.2.2.2.2.2.1.2))]]) hx hb hz hw 4 rfl g28 dX11_readsStep_122 (by rw [ef29]; rfl) (fun H locs hw => ?_)
                refine lv_aload_n hx hb dX11_readsStep_123 rfl (lv_at hl 3 rfl) ?_
                refine k_get (ci := 11) (v := .ref a0.2.2.2.2.1) (C := RX11) (T := TX11) (N := 14) hx hb hts hown hz hw (by decide +kernel) 0 rfl rfl 7 (by decide) (hts (.fieldLink RX11 19 "OccupancyMonitorModel" "read" "[I") (by decide +kernel)) (fun _ h9 => h9) rfl dX11_readsStep_124 ?_
                refine lv_iconst (v := 3) hx hb dX11_readsStep_127 (by decide) ?_
                refine lv_aload_n hx hb dX11_readsStep_128 rfl (lv_at hl 3 rfl) ?_
                refine k_get (ci := 11) (v := .int o24.2.2.2.2.2.2.2.2.2.1) (C := RX11) (T := TX11) (N := 14) hx hb hts hown hz hw (by decide +kernel) 0 rfl rfl 8 (by decide) (hts (.fieldLink RX11 87 "OccupancyMonitorModel" "readMany" "I") (by decide +kernel)) (fun _ h9 => h9) rfl dX11_readsStep_129 ?_
                refine lv_imul hx hb dX11_readsStep_132 ?_
                refine lv_iconst (v := 2) hx hb dX11_readsStep_133 (by decide) ?_
                refine lv_iadd hx hb dX11_readsStep_134 ?_
                refine lv_iload_n hx hb dX11_readsStep_135 rfl (lv_at hl 0 rfl) ?_
                obtain ⟨g30, hsp⟩ := grd_of hsp
                obtain ⟨f31, ef31⟩ : ∃ u : Nat → Int32, u = (upd f29 (((3 : Int32) * o24.2.2.2.2.2.2.2.2.2.1) + (2 : Int32)).toNatClampNeg o22.1) := ⟨_, rfl⟩
                have hsp := lt_of hsp ef31
                refine k_iast (bs1 := [[(a0.1, .inr (11, [.ref a0.2.1, .ref a0.2.2.1, .int o24.2.2.2.1, .int o24.2.2.2.2.1, .ref a0.2.2.2.1, .int o24.2.2.2.2.2.2.1, .int o24.2.2.2.2.2.2.2.1, .ref a0.2.2.2.2.1, .int o24.2.2.2.2.2.2.2.2.2.1, .int o24.2.2.2.2.2.2.2.2.2.2.1, .int o24.2.2.2.2.2.2.2.2.2.2.2.1, .int o24.2.2.2.2.2.2.2.2.2.2.2.2.1, .ref a0.2.2.2.2.2, .int o24.2.2.2.2.2.2.2.2.2.2.2.2.2.2]))], [(a0.2.1, .inl (cA, o24.2.1.1, .inl o24.2.1.2))], [(a0.2.2.1, .inl (cA, o24.2.2.1.1, .inl o24.2.2.1.2))], [(a0.2.2.2.1, .inl (cA, o24.2.2.2.2.2.1.1, .inl o24.2.2.2.2.2.1.2))], [(a0.2.2.2.2.1, .inl (cA, o24.2.2.2.2.2.2.2.2.1.1, .inl f31))], [(a0.2.2.2.2.2, .inl (cA, o24.2.2.2.2.2.2.2.2.2.2.2.2.2.1.1, .inl o24.2.2.2.2.2.2.2.2.2.2.2.2.2.1.2))]]) hx hb hz hw 4 rfl g30 dX11_readsStep_136 (by rw [ef31]; rfl) (fun H locs hw => ?_)
                refine lv_aload_n hx hb dX11_readsStep_137 rfl (lv_at hl 3 rfl) ?_
                refine lv_dup hx hb dX11_readsStep_138 rfl ?_
                refine k_get (ci := 11) (v := .int o24.2.2.2.2.2.2.2.2.2.1) (C := RX11) (T := TX11) (N := 14) hx hb hts hown hz hw (by decide +kernel) 0 rfl rfl 8 (by decide) (hts (.fieldLink RX11 87 "OccupancyMonitorModel" "readMany" "I") (by decide +kernel)) (fun _ h9 => h9) rfl dX11_readsStep_139 ?_
                refine lv_iconst (v := 1) hx hb dX11_readsStep_142 (by decide) ?_
                refine lv_iadd hx hb dX11_readsStep_143 ?_
                refine k_put (ci := 11) (v := .int (o24.2.2.2.2.2.2.2.2.2.1 + (1 : Int32))) (ty := .int) (C := RX11) (T := TX11) (N := 14) (bs1 := [[(a0.1, .inr (11, [.ref a0.2.1, .ref a0.2.2.1, .int o24.2.2.2.1, .int o24.2.2.2.2.1, .ref a0.2.2.2.1, .int o24.2.2.2.2.2.2.1, .int o24.2.2.2.2.2.2.2.1, .ref a0.2.2.2.2.1, .int (o24.2.2.2.2.2.2.2.2.2.1 + (1 : Int32)), .int o24.2.2.2.2.2.2.2.2.2.2.1, .int o24.2.2.2.2.2.2.2.2.2.2.2.1, .int o24.2.2.2.2.2.2.2.2.2.2.2.2.1, .ref a0.2.2.2.2.2, .int o24.2.2.2.2.2.2.2.2.2.2.2.2.2.2]))], [(a0.2.1, .inl (cA, o24.2.1.1, .inl o24.2.1.2))], [(a0.2.2.1, .inl (cA, o24.2.2.1.1, .inl o24.2.2.1.2))], [(a0.2.2.2.1, .inl (cA, o24.2.2.2.2.2.1.1, .inl o24.2.2.2.2.2.1.2))], [(a0.2.2.2.2.1, .inl (cA, o24.2.2.2.2.2.2.2.2.1.1, .inl f31))], [(a0.2.2.2.2.2, .inl (cA, o24.2.2.2.2.2.2.2.2.2.2.2.2.2.1.1, .inl o24.2.2.2.2.2.2.2.2.2.2.2.2.2.1.2))]]) hx hb hts hown hz hw (by decide +kernel) tyX11 tyX11_ok nmX11 0 rfl rfl 8 (by decide) (hts (.fieldLink RX11 87 "OccupancyMonitorModel" "readMany" "I") (by decide +kernel)) (fun _ h9 => h9) rfl (by decide +kernel) rfl rfl (Nat.le_of_ble_eq_true rfl) dX11_readsStep_144 rfl (fun H locs hw => ?_)
                refine lv_iconst (v := 1) hx hb dX11_readsStep_147 (by decide) ?_
                have hsp := Option.some.inj hsp
                subst hsp
                have hw : ww A s.heap D [w11 cA a0 (o24.2.1, o24.2.2.1, o24.2.2.2.1, o24.2.2.2.2.1, o24.2.2.2.2.2.1, o24.2.2.2.2.2.2.1, o24.2.2.2.2.2.2.2.1, (o24.2.2.2.2.2.2.2.2.1.1, f31), (o24.2.2.2.2.2.2.2.2.2.1 + (1 : Int32)), o24.2.2.2.2.2.2.2.2.2.2.1, o24.2.2.2.2.2.2.2.2.2.2.2.1, o24.2.2.2.2.2.2.2.2.2.2.2.2.1, o24.2.2.2.2.2.2.2.2.2.2.2.2.2.1, o24.2.2.2.2.2.2.2.2.2.2.2.2.2.2)] H locs := hw
                subst hQ
                exact k_zret (v := (1 : Int32)) hx hb hr hlk rfl hw dX11_readsStep_148
              · have hsp := ift c25 hsp
                refine lv_iconst (v := 0) hx hb dX11_readsStep_95 (by decide) ?_
                have hsp := Option.some.inj hsp
                subst hsp
                have hw : ww A s.heap D [w11 cA a0 o24.2] H locs := hw
                subst hQ
                exact k_zret (v := (0 : Int32)) hx hb hr hlk rfl hw dX11_readsStep_96
          · have hsp := ift c21 hsp
            refine lv_iconst (v := 0) hx hb dX11_readsStep_71 (by decide) ?_
            have hsp := Option.some.inj hsp
            subst hsp
            have hw : ww A s.heap D [w11 cA a0 o20.2] H locs := hw
            subst hQ
            exact k_zret (v := (0 : Int32)) hx hb hr hlk rfl hw dX11_readsStep_72
        · have hsp := ift c19 hsp
          refine lv_iconst (v := 0) hx hb dX11_readsStep_60 (by decide) ?_
          have hsp := Option.some.inj hsp
          subst hsp
          have hw : ww A s.heap D [w11 cA a0 o18.2] H locs := hw
          subst hQ
          exact k_zret (v := (0 : Int32)) hx hb hr hlk rfl hw dX11_readsStep_61
    · have hsp := ift c3 hsp
      refine lv_iconst (v := 0) hx hb dX11_readsStep_34 (by decide) ?_
      have hsp := Option.some.inj hsp
      subst hsp
      have hw : ww A s.heap D [w11 cA a0 o2.2] H locs := hw
      subst hQ
      exact k_zret (v := (0 : Int32)) hx hb hr hlk rfl hw dX11_readsStep_35
  · have hsp := ift c1 hsp
    refine lv_aload_n hx hb dX11_readsStep_9 rfl (lv_at hl 0 rfl) ?_
    have hw : ww A s.heap D [w11 cA a0 v0] H locs := hw
    obtain ⟨o32, hso32, hsp⟩ := bnd_of hsp
    refine k_callV (ci := 11) (C := RX11) (T := TX11) (N := 14) (nA := 0) (As := []) (cs := [w11 cA a0 v0]) (rs := []) (cs1 := [w11 cA a0 v0]) (bs1 := [w11 cA a0 v0]) (rest := []) (st1 := [.int o32]) ⟨hx, hb, hml, hown, hts⟩ hz hw hA (mX11_here l D cA cR a0 v0 o32 hso32) gX11_readsStep_X11_here rfl rfl rfl (by decide +kernel) rfl ⟨Nat.le_of_ble_eq_true rfl, Nat.le_of_ble_eq_true rfl⟩ rfl rfl hl.1 rfl (Nat.le_of_ble_eq_true rfl) dX11_readsStep_10 ⟨Nat.le_of_ble_eq_true rfl, Nat.le_of_ble_eq_true rfl⟩ [0] [] [0] rfl rfl rfl rfl rfl rfl (fun H locs hw => ?_)
    have hw : ww A s.heap D [[(a0.1, .inr (11, [.ref a0.2.1, .ref a0.2.2.1, .int v0.2.2.1, .int v0.2.2.2.1, .ref a0.2.2.2.1, .int v0.2.2.2.2.2.1, .int v0.2.2.2.2.2.2.1, .ref a0.2.2.2.2.1, .int v0.2.2.2.2.2.2.2.2.1, .int v0.2.2.2.2.2.2.2.2.2.1, .int v0.2.2.2.2.2.2.2.2.2.2.1, .int v0.2.2.2.2.2.2.2.2.2.2.2.1, .ref a0.2.2.2.2.2, .int v0.2.2.2.2.2.2.2.2.2.2.2.2.2]))], [(a0.2.1, .inl (cA, v0.1.1, .inl v0.1.2))], [(a0.2.2.1, .inl (cA, v0.2.1.1, .inl v0.2.1.2))], [(a0.2.2.2.1, .inl (cA, v0.2.2.2.2.1.1, .inl v0.2.2.2.2.1.2))], [(a0.2.2.2.2.1, .inl (cA, v0.2.2.2.2.2.2.2.1.1, .inl v0.2.2.2.2.2.2.2.1.2))], [(a0.2.2.2.2.2, .inl (cA, v0.2.2.2.2.2.2.2.2.2.2.2.2.1.1, .inl v0.2.2.2.2.2.2.2.2.2.2.2.2.1.2))]] H locs := hw
    obtain ⟨o33, hso33, hsp⟩ := bnd_of hsp
    refine k_callS (nA := 1) (As := [.int o32]) (cs := []) (rs := [[(a0.1, .inr (11, [.ref a0.2.1, .ref a0.2.2.1, .int v0.2.2.1, .int v0.2.2.2.1, .ref a0.2.2.2.1, .int v0.2.2.2.2.2.1, .int v0.2.2.2.2.2.2.1, .ref a0.2.2.2.2.1, .int v0.2.2.2.2.2.2.2.2.1, .int v0.2.2.2.2.2.2.2.2.2.1, .int v0.2.2.2.2.2.2.2.2.2.2.1, .int v0.2.2.2.2.2.2.2.2.2.2.2.1, .ref a0.2.2.2.2.2, .int v0.2.2.2.2.2.2.2.2.2.2.2.2.2]))], [(a0.2.1, .inl (cA, v0.1.1, .inl v0.1.2))], [(a0.2.2.1, .inl (cA, v0.2.1.1, .inl v0.2.1.2))], [(a0.2.2.2.1, .inl (cA, v0.2.2.2.2.1.1, .inl v0.2.2.2.2.1.2))], [(a0.2.2.2.2.1, .inl (cA, v0.2.2.2.2.2.2.2.1.1, .inl v0.2.2.2.2.2.2.2.1.2))], [(a0.2.2.2.2.2, .inl (cA, v0.2.2.2.2.2.2.2.2.2.2.2.2.1.1, .inl v0.2.2.2.2.2.2.2.2.2.2.2.2.1.2))]]) (cs1 := []) (bs1 := [[(a0.1, .inr (11, [.ref a0.2.1, .ref a0.2.2.1, .int v0.2.2.1, .int v0.2.2.2.1, .ref a0.2.2.2.1, .int v0.2.2.2.2.2.1, .int v0.2.2.2.2.2.2.1, .ref a0.2.2.2.2.1, .int v0.2.2.2.2.2.2.2.2.1, .int v0.2.2.2.2.2.2.2.2.2.1, .int v0.2.2.2.2.2.2.2.2.2.2.1, .int v0.2.2.2.2.2.2.2.2.2.2.2.1, .ref a0.2.2.2.2.2, .int v0.2.2.2.2.2.2.2.2.2.2.2.2.2]))], [(a0.2.1, .inl (cA, v0.1.1, .inl v0.1.2))], [(a0.2.2.1, .inl (cA, v0.2.1.1, .inl v0.2.1.2))], [(a0.2.2.2.1, .inl (cA, v0.2.2.2.2.1.1, .inl v0.2.2.2.2.1.2))], [(a0.2.2.2.2.1, .inl (cA, v0.2.2.2.2.2.2.2.1.1, .inl v0.2.2.2.2.2.2.2.1.2))], [(a0.2.2.2.2.2, .inl (cA, v0.2.2.2.2.2.2.2.2.2.2.2.2.1.1, .inl v0.2.2.2.2.2.2.2.2.2.2.2.2.1.2))]]) (rest := []) (st1 := [.int o33]) ⟨hx, hb, hml, hown, hts⟩ hz hw hA (mX11_isFigure l D cA cR o32 o33 hso33) gX11_readsStep_X11_isFigure rfl rfl rfl (by decide +kernel) rfl ⟨Nat.le_of_ble_eq_true rfl, Nat.le_of_ble_eq_true rfl⟩ hl.1 rfl (Nat.le_of_ble_eq_true rfl) dX11_readsStep_13 ⟨Nat.le_of_ble_eq_true rfl, Nat.le_of_ble_eq_true rfl⟩ [] [0, 1, 2, 3, 4, 5] [0, 1, 2, 3, 4, 5] rfl rfl rfl rfl rfl rfl (fun H locs hw => ?_)
    refine lv_if_eq (tgt := 21) hx hb dX11_readsStep_16 (by decide) (fun c34 => ?_) (fun c34 => ?_)
    · have hsp := ift c34 hsp
      refine lv_aload_n hx hb dX11_readsStep_21 rfl (lv_at hl 0 rfl) ?_
      refine lv_iconst (v := 0) hx hb dX11_readsStep_22 (by decide) ?_
      refine lv_bipush (v := 31) hx hb dX11_readsStep_23 (by decide) ?_
      have hw : ww A s.heap D [w11 cA a0 v0] H locs := hw
      obtain ⟨o35, hso35, hsp⟩ := bnd_of hsp
      refine k_callV (ci := 11) (C := RX11) (T := TX11) (N := 14) (nA := 2) (As := [.int (0 : Int32), .int (31 : Int32)]) (cs := [w11 cA a0 v0]) (rs := []) (cs1 := [w11 cA a0 o35.2]) (bs1 := [w11 cA a0 o35.2]) (rest := []) (st1 := [.int o35.1]) ⟨hx, hb, hml, hown, hts⟩ hz hw hA (mX11_number l D cA cR N a0 v0 (0 : Int32) (31 : Int32) o35 hso35) gX11_readsStep_X11_number rfl rfl rfl (by decide +kernel) rfl ⟨Nat.le_of_ble_eq_true rfl, Nat.le_of_ble_eq_true rfl⟩ rfl rfl hl.1 rfl (Nat.le_of_ble_eq_true rfl) dX11_readsStep_25 ⟨Nat.le_of_ble_eq_true rfl, Nat.le_of_ble_eq_true rfl⟩ [0] [] [0] rfl rfl rfl rfl rfl rfl (fun H locs hw => ?_)
      have hw : ww A s.heap D [[(a0.1, .inr (11, [.ref a0.2.1, .ref a0.2.2.1, .int o35.2.2.2.1, .int o35.2.2.2.2.1, .ref a0.2.2.2.1, .int o35.2.2.2.2.2.2.1, .int o35.2.2.2.2.2.2.2.1, .ref a0.2.2.2.2.1, .int o35.2.2.2.2.2.2.2.2.2.1, .int o35.2.2.2.2.2.2.2.2.2.2.1, .int o35.2.2.2.2.2.2.2.2.2.2.2.1, .int o35.2.2.2.2.2.2.2.2.2.2.2.2.1, .ref a0.2.2.2.2.2, .int o35.2.2.2.2.2.2.2.2.2.2.2.2.2.2]))], [(a0.2.1, .inl (cA, o35.2.1.1, .inl o35.2.1.2))], [(a0.2.2.1, .inl (cA, o35.2.2.1.1, .inl o35.2.2.1.2))], [(a0.2.2.2.1, .inl (cA, o35.2.2.2.2.2.1.1, .inl o35.2.2.2.2.2.1.2))], [(a0.2.2.2.2.1, .inl (cA, o35.2.2.2.2.2.2.2.2.1.1, .inl o35.2.2.2.2.2.2.2.2.1.2))], [(a0.2.2.2.2.2, .inl (cA, o35.2.2.2.2.2.2.2.2.2.2.2.2.2.1.1, .inl o35.2.2.2.2.2.2.2.2.2.2.2.2.2.1.2))]] H locs := hw
      refine lv_istore_n (lv' := [(1, .int o35.1), (0, .ref a0.1)]) hx hb dX11_readsStep_28 rfl hl (by decide) rfl (fun ls hl => ?_)
      refine lv_iload_n hx hb dX11_readsStep_29 rfl (lv_at hl 0 rfl) ?_
      refine lv_iconst (v := -1) hx hb dX11_readsStep_30 (by decide) ?_
      refine lv_icmp_ne (tgt := 36) hx hb dX11_readsStep_31 (by decide) (fun c36 => ?_) (fun c36 => ?_)
      · have hsp := iff_ c36 hsp
        refine lv_iload_n hx hb dX11_readsStep_36 rfl (lv_at hl 0 rfl) ?_
        refine lv_istore_n (lv' := [(2, .int o35.1), (1, .int o35.1), (0, .ref a0.1)]) hx hb dX11_readsStep_37 rfl hl (by decide) rfl (fun ls hl => ?_)
        refine lv_aload_n hx hb dX11_readsStep_38 rfl (lv_at hl 2 rfl) ?_
        refine lv_bipush (v := 45) hx hb dX11_readsStep_39 (by decide) ?_
        have hw : ww A s.heap D [w11 cA a0 o35.2] H locs := hw
        obtain ⟨o37, hso37, hsp⟩ := bnd_of hsp
        refine k_callV (ci := 11) (C := RX11) (T := TX11) (N := 14) (nA := 1) (As := [.int (45 : Int32)]) (cs := [w11 cA a0 o35.2]) (rs := []) (cs1 := [w11 cA a0 o37.2]) (bs1 := [w11 cA a0 o37.2]) (rest := []) (st1 := [.int o37.1]) ⟨hx, hb, hml, hown, hts⟩ hz hw hA (mX11_passes l D cA cR a0 o35.2 (45 : Int32) o37 hso37) gX11_readsStep_X11_passes rfl rfl rfl (by decide +kernel) rfl ⟨Nat.le_of_ble_eq_true rfl, Nat.le_of_ble_eq_true rfl⟩ rfl rfl hl.1 rfl (Nat.le_of_ble_eq_true rfl) dX11_readsStep_41 ⟨Nat.le_of_ble_eq_true rfl, Nat.le_of_ble_eq_true rfl⟩ [0] [] [0] rfl rfl rfl rfl rfl rfl (fun H locs hw => ?_)
        have hw : ww A s.heap D [[(a0.1, .inr (11, [.ref a0.2.1, .ref a0.2.2.1, .int o37.2.2.2.1, .int o37.2.2.2.2.1, .ref a0.2.2.2.1, .int o37.2.2.2.2.2.2.1, .int o37.2.2.2.2.2.2.2.1, .ref a0.2.2.2.2.1, .int o37.2.2.2.2.2.2.2.2.2.1, .int o37.2.2.2.2.2.2.2.2.2.2.1, .int o37.2.2.2.2.2.2.2.2.2.2.2.1, .int o37.2.2.2.2.2.2.2.2.2.2.2.2.1, .ref a0.2.2.2.2.2, .int o37.2.2.2.2.2.2.2.2.2.2.2.2.2.2]))], [(a0.2.1, .inl (cA, o37.2.1.1, .inl o37.2.1.2))], [(a0.2.2.1, .inl (cA, o37.2.2.1.1, .inl o37.2.2.1.2))], [(a0.2.2.2.1, .inl (cA, o37.2.2.2.2.2.1.1, .inl o37.2.2.2.2.2.1.2))], [(a0.2.2.2.2.1, .inl (cA, o37.2.2.2.2.2.2.2.2.1.1, .inl o37.2.2.2.2.2.2.2.2.1.2))], [(a0.2.2.2.2.2, .inl (cA, o37.2.2.2.2.2.2.2.2.2.2.2.2.2.1.1, .inl o37.2.2.2.2.2.2.2.2.2.2.2.2.2.1.2))]] H locs := hw
        refine lv_if_eq (tgt := 62) hx hb dX11_readsStep_44 (by decide) (fun c38 => ?_) (fun c38 => ?_)
        · have hsp := ift c38 hsp
          refine lv_aload_n hx hb dX11_readsStep_62 rfl (lv_at hl 2 rfl) ?_
          refine lv_bipush (v := 58) hx hb dX11_readsStep_63 (by decide) ?_
          have hw : ww A s.heap D [w11 cA a0 o37.2] H locs := hw
          obtain ⟨o39, hso39, hsp⟩ := bnd_of hsp
          refine k_callV (ci := 11) (C := RX11) (T := TX11) (N := 14) (nA := 1) (As := [.int (58 : Int32)]) (cs := [w11 cA a0 o37.2]) (rs := []) (cs1 := [w11 cA a0 o39.2]) (bs1 := [w11 cA a0 o39.2]) (rest := []) (st1 := [.int o39.1]) ⟨hx, hb, hml, hown, hts⟩ hz hw hA (mX11_passes l D cA cR a0 o37.2 (58 : Int32) o39 hso39) gX11_readsStep_X11_passes rfl rfl rfl (by decide +kernel) rfl ⟨Nat.le_of_ble_eq_true rfl, Nat.le_of_ble_eq_true rfl⟩ rfl rfl hl.1 rfl (Nat.le_of_ble_eq_true rfl) dX11_readsStep_65 ⟨Nat.le_of_ble_eq_true rfl, Nat.le_of_ble_eq_true rfl⟩ [0] [] [0] rfl rfl rfl rfl rfl rfl (fun H locs hw => ?_)
          have hw : ww A s.heap D [[(a0.1, .inr (11, [.ref a0.2.1, .ref a0.2.2.1, .int o39.2.2.2.1, .int o39.2.2.2.2.1, .ref a0.2.2.2.1, .int o39.2.2.2.2.2.2.1, .int o39.2.2.2.2.2.2.2.1, .ref a0.2.2.2.2.1, .int o39.2.2.2.2.2.2.2.2.2.1, .int o39.2.2.2.2.2.2.2.2.2.2.1, .int o39.2.2.2.2.2.2.2.2.2.2.2.1, .int o39.2.2.2.2.2.2.2.2.2.2.2.2.1, .ref a0.2.2.2.2.2, .int o39.2.2.2.2.2.2.2.2.2.2.2.2.2.2]))], [(a0.2.1, .inl (cA, o39.2.1.1, .inl o39.2.1.2))], [(a0.2.2.1, .inl (cA, o39.2.2.1.1, .inl o39.2.2.1.2))], [(a0.2.2.2.1, .inl (cA, o39.2.2.2.2.2.1.1, .inl o39.2.2.2.2.2.1.2))], [(a0.2.2.2.2.1, .inl (cA, o39.2.2.2.2.2.2.2.2.1.1, .inl o39.2.2.2.2.2.2.2.2.1.2))], [(a0.2.2.2.2.2, .inl (cA, o39.2.2.2.2.2.2.2.2.2.2.2.2.2.1.1, .inl o39.2.2.2.2.2.2.2.2.2.2.2.2.2.1.2))]] H locs := hw
          refine lv_if_ne (tgt := 73) hx hb dX11_readsStep_68 (by decide) (fun c40 => ?_) (fun c40 => ?_)
          · have hsp := iff_ c40 hsp
            refine lv_aload_n hx hb dX11_readsStep_73 rfl (lv_at hl 2 rfl) ?_
            refine lv_iconst (v := 1) hx hb dX11_readsStep_74 (by decide) ?_
            refine lv_bipush (v := 20) hx hb dX11_readsStep_75 (by decide) ?_
            have hw : ww A s.heap D [w11 cA a0 o39.2] H locs := hw
            obtain ⟨o41, hso41, hsp⟩ := bnd_of hsp
            refine k_callV (ci := 11) (C := RX11) (T := TX11) (N := 14) (nA := 2) (As := [.int (1 : Int32), .int (20 : Int32)]) (cs := [w11 cA a0 o39.2]) (rs := []) (cs1 := [w11 cA a0 o41.2]) (bs1 := [w11 cA a0 o41.2]) (rest := []) (st1 := [.int o41.1]) ⟨hx, hb, hml, hown, hts⟩ hz hw hA (mX11_number l D cA cR N a0 o39.2 (1 : Int32) (20 : Int32) o41 hso41) gX11_readsStep_X11_number rfl rfl rfl (by decide +kernel) rfl ⟨Nat.le_of_ble_eq_true rfl, Nat.le_of_ble_eq_true rfl⟩ rfl rfl hl.1 rfl (Nat.le_of_ble_eq_true rfl) dX11_readsStep_77 ⟨Nat.le_of_ble_eq_true rfl, Nat.le_of_ble_eq_true rfl⟩ [0] [] [0] rfl rfl rfl rfl rfl rfl (fun H locs hw => ?_)
            have hw : ww A s.heap D [[(a0.1, .inr (11, [.ref a0.2.1, .ref a0.2.2.1, .int o41.2.2.2.1, .int o41.2.2.2.2.1, .ref a0.2.2.2.1, .int o41.2.2.2.2.2.2.1, .int o41.2.2.2.2.2.2.2.1, .ref a0.2.2.2.2.1, .int o41.2.2.2.2.2.2.2.2.2.1, .int o41.2.2.2.2.2.2.2.2.2.2.1, .int o41.2.2.2.2.2.2.2.2.2.2.2.1, .int o41.2.2.2.2.2.2.2.2.2.2.2.2.1, .ref a0.2.2.2.2.2, .int o41.2.2.2.2.2.2.2.2.2.2.2.2.2.2]))], [(a0.2.1, .inl (cA, o41.2.1.1, .inl o41.2.1.2))], [(a0.2.2.1, .inl (cA, o41.2.2.1.1, .inl o41.2.2.1.2))], [(a0.2.2.2.1, .inl (cA, o41.2.2.2.2.2.1.1, .inl o41.2.2.2.2.2.1.2))], [(a0.2.2.2.2.1, .inl (cA, o41.2.2.2.2.2.2.2.2.1.1, .inl o41.2.2.2.2.2.2.2.2.1.2))], [(a0.2.2.2.2.2, .inl (cA, o41.2.2.2.2.2.2.2.2.2.2.2.2.2.1.1, .inl o41.2.2.2.2.2.2.2.2.2.2.2.2.2.1.2))]] H locs := hw
            refine lv_istore_n (lv' := [(3, .int o41.1), (2, .int o35.1), (1, .int o35.1), (0, .ref a0.1)]) hx hb dX11_readsStep_80 rfl hl (by decide) rfl (fun ls hl => ?_)
            refine lv_iload_n hx hb dX11_readsStep_81 rfl (lv_at hl 0 rfl) ?_
            refine lv_iconst (v := -1) hx hb dX11_readsStep_82 (by decide) ?_
            refine lv_icmp_eq (tgt := 95) hx hb dX11_readsStep_83 (by decide) (fun c42 => ?_) (fun c42 => ?_)
            · have hsp := ift c42 hsp
              refine lv_iconst (v := 0) hx hb dX11_readsStep_95 (by decide) ?_
              have hsp := Option.some.inj hsp
              subst hsp
              have hw : ww A s.heap D [w11 cA a0 o41.2] H locs := hw
              subst hQ
              exact k_zret (v := (0 : Int32)) hx hb hr hlk rfl hw dX11_readsStep_96
            · have hsp := iff_ c42 hsp
              refine lv_aload_n hx hb dX11_readsStep_86 rfl (lv_at hl 3 rfl) ?_
              refine lv_bipush (v := 59) hx hb dX11_readsStep_87 (by decide) ?_
              have hw : ww A s.heap D [w11 cA a0 o41.2] H locs := hw
              obtain ⟨o43, hso43, hsp⟩ := bnd_of hsp
              refine k_callV (ci := 11) (C := RX11) (T := TX11) (N := 14) (nA := 1) (As := [.int (59 : Int32)]) (cs := [w11 cA a0 o41.2]) (rs := []) (cs1 := [w11 cA a0 o43.2]) (bs1 := [w11 cA a0 o43.2]) (rest := []) (st1 := [.int o43.1]) ⟨hx, hb, hml, hown, hts⟩ hz hw hA (mX11_passes l D cA cR a0 o41.2 (59 : Int32) o43 hso43) gX11_readsStep_X11_passes rfl rfl rfl (by decide +kernel) rfl ⟨Nat.le_of_ble_eq_true rfl, Nat.le_of_ble_eq_true rfl⟩ rfl rfl hl.1 rfl (Nat.le_of_ble_eq_true rfl) dX11_readsStep_89 ⟨Nat.le_of_ble_eq_true rfl, Nat.le_of_ble_eq_true rfl⟩ [0] [] [0] rfl rfl rfl rfl rfl rfl (fun H locs hw => ?_)
              have hw : ww A s.heap D [[(a0.1, .inr (11, [.ref a0.2.1, .ref a0.2.2.1, .int o43.2.2.2.1, .int o43.2.2.2.2.1, .ref a0.2.2.2.1, .int o43.2.2.2.2.2.2.1, .int o43.2.2.2.2.2.2.2.1, .ref a0.2.2.2.2.1, .int o43.2.2.2.2.2.2.2.2.2.1, .int o43.2.2.2.2.2.2.2.2.2.2.1, .int o43.2.2.2.2.2.2.2.2.2.2.2.1, .int o43.2.2.2.2.2.2.2.2.2.2.2.2.1, .ref a0.2.2.2.2.2, .int o43.2.2.2.2.2.2.2.2.2.2.2.2.2.2]))], [(a0.2.1, .inl (cA, o43.2.1.1, .inl o43.2.1.2))], [(a0.2.2.1, .inl (cA, o43.2.2.1.1, .inl o43.2.2.1.2))], [(a0.2.2.2.1, .inl (cA, o43.2.2.2.2.2.1.1, .inl o43.2.2.2.2.2.1.2))], [(a0.2.2.2.2.1, .inl (cA, o43.2.2.2.2.2.2.2.2.1.1, .inl o43.2.2.2.2.2.2.2.2.1.2))], [(a0.2.2.2.2.2, .inl (cA, o43.2.2.2.2.2.2.2.2.2.2.2.2.2.1.1, .inl o43.2.2.2.2.2.2.2.2.2.2.2.2.2.1.2))]] H locs := hw
              refine lv_if_ne (tgt := 97) hx hb dX11_readsStep_92 (by decide) (fun c44 => ?_) (fun c44 => ?_)
              · have hsp := iff_ c44 hsp
                refine lv_aload_n hx hb dX11_readsStep_97 rfl (lv_at hl 3 rfl) ?_
                refine k_get (ci := 11) (v := .ref a0.2.2.2.2.1) (C := RX11) (T := TX11) (N := 14) hx hb hts hown hz hw (by decide +kernel) 0 rfl rfl 7 (by decide) (hts (.fieldLink RX11 19 "OccupancyMonitorModel" "read" "[I") (by decide +kernel)) (fun _ h9 => h9) rfl dX11_readsStep_98 ?_
                refine lv_iconst (v := 3) hx hb dX11_readsStep_101 (by decide) ?_
                refine lv_aload_n hx hb dX11_readsStep_102 rfl (lv_at hl 3 rfl) ?_
                refine k_get (ci := 11) (v := .int o43.2.2.2.2.2.2.2.2.2.1) (C := RX11) (T := TX11) (N := 14) hx hb hts hown hz hw (by decide +kernel) 0 rfl rfl 8 (by decide) (hts (.fieldLink RX11 87 "OccupancyMonitorModel" "readMany" "I") (by decide +kernel)) (fun _ h9 => h9) rfl dX11_readsStep_103 ?_
                refine lv_imul hx hb dX11_readsStep_106 ?_
                refine lv_iload_n hx hb dX11_readsStep_107 rfl (lv_at hl 2 rfl) ?_
                obtain ⟨g45, hsp⟩ := grd_of hsp
                obtain ⟨f46, ef46⟩ : ∃ u : Nat → Int32, u = (upd o43.2.2.2.2.2.2.2.2.1.2 ((3 : Int32) * o43.2.2.2.2.2.2.2.2.2.1).toNatClampNeg o35.1) := ⟨_, rfl⟩
                have hsp := lt_of hsp ef46
                refine k_iast (bs1 := [[(a0.1, .inr (11, [.ref a0.2.1, .ref a0.2.2.1, .int o43.2.2.2.1, .int o43.2.2.2.2.1, .ref a0.2.2.2.1, .int o43.2.2.2.2.2.2.1, .int o43.2.2.2.2.2.2.2.1, .ref a0.2.2.2.2.1, .int o43.2.2.2.2.2.2.2.2.2.1, .int o43.2.2.2.2.2.2.2.2.2.2.1, .int o43.2.2.2.2.2.2.2.2.2.2.2.1, .int o43.2.2.2.2.2.2.2.2.2.2.2.2.1, .ref a0.2.2.2.2.2, .int o43.2.2.2.2.2.2.2.2.2.2.2.2.2.2]))], [(a0.2.1, .inl (cA, o43.2.1.1, .inl o43.2.1.2))], [(a0.2.2.1, .inl (cA, o43.2.2.1.1, .inl o43.2.2.1.2))], [(a0.2.2.2.1, .inl (cA, o43.2.2.2.2.2.1.1, .inl o43.2.2.2.2.2.1.2))], [(a0.2.2.2.2.1, .inl (cA, o43.2.2.2.2.2.2.2.2.1.1, .inl f46))], [(a0.2.2.2.2.2, .inl (cA, o43.2.2.2.2.2.2.2.2.2.2.2.2.2.1.1, .inl o43.2.2.2.2.2.2.2.2.2.2.2.2.2.1.2))]]) hx hb hz hw 4 rfl g45 dX11_readsStep_108 (by rw [ef46]; rfl) (fun H locs hw => ?_)
                refine lv_aload_n hx hb dX11_readsStep_109 rfl (lv_at hl 3 rfl) ?_
                refine k_get (ci := 11) (v := .ref a0.2.2.2.2.1) (C := RX11) (T := TX11) (N := 14) hx hb hts hown hz hw (by decide +kernel) 0 rfl rfl 7 (by decide) (hts (.fieldLink RX11 19 "OccupancyMonitorModel" "read" "[I") (by decide +kernel)) (fun _ h9 => h9) rfl dX11_readsStep_110 ?_
                refine lv_iconst (v := 3) hx hb dX11_readsStep_113 (by decide) ?_
                refine lv_aload_n hx hb dX11_readsStep_114 rfl (lv_at hl 3 rfl) ?_
                refine k_get (ci := 11) (v := .int o43.2.2.2.2.2.2.2.2.2.1) (C := RX11) (T := TX11) (N := 14) hx hb hts hown hz hw (by decide +kernel) 0 rfl rfl 8 (by decide) (hts (.fieldLink RX11 87 "OccupancyMonitorModel" "readMany" "I") (by decide +kernel)) (fun _ h9 => h9) rfl dX11_readsStep_115 ?_
                refine lv_imul hx hb dX11_readsStep_118 ?_
                refine lv_iconst (v := 1) hx hb dX11_readsStep_119 (by decide) ?_
                refine lv_iadd hx hb dX11_readsStep_120 ?_
                refine lv_iload_n hx hb dX11_readsStep_121 rfl (lv_at hl 1 rfl) ?_
                obtain ⟨g47, hsp⟩ := grd_of hsp
                obtain ⟨f48, ef48⟩ : ∃ u : Nat → Int32, u = (upd f46 (((3 : Int32) * o43.2.2.2.2.2.2.2.2.2.1) + (1 : Int32)).toNatClampNeg o35.1) := ⟨_, rfl⟩
                have hsp := lt_of hsp ef48
                refine k_iast (bs1 := [[(a0.1, .inr (11, [.ref a0.2.1, .ref a0.2.2.1, .int o43.2.2.2.1, .int o43.2.2.2.2.1, .ref a0.2.2.2.1, .int o43.2.2.2.2.2.2.1, .int o43.2.2.2.2.2.2.2.1, .ref a0.2.2.2.2.1, .int o43.2.2.2.2.2.2.2.2.2.1, .int o43.2.2.2.2.2.2.2.2.2.2.1, .int o43.2.2.2.2.2.2.2.2.2.2.2.1, .int o43.2.2.2.2.2.2.2.2.2.2.2.2.1, .ref a0.2.2.2.2.2, .int o43.2.2.2.2.2.2.2.2.2.2.2.2.2.2]))], [(a0.2.1, .inl (cA, o43.2.1.1, .inl o43.2.1.2))], [(a0.2.2.1, .inl (cA, o43.2.2.1.1, .inl o43.2.2.1.2))], [(a0.2.2.2.1, .inl (cA, o43.2.2.2.2.2.1.1, .inl o43.2.2.2.2.2.1.2))], [(a0.2.2.2.2.1, .inl (cA, o43.2.2.2.2.2.2.2.2.1.1, .inl f48))], [(a0.2.2.2.2.2, .inl (cA, o43.2.2.2.2.2.2.2.2.2.2.2.2.2.1.1, .inl o43.2.2.2.2.2.2.2.2.2.2.2.2.2.1.2))]]) hx hb hz hw 4 rfl g47 dX11_readsStep_122 (by rw [ef48]; rfl) (fun H locs hw => ?_)
                refine lv_aload_n hx hb dX11_readsStep_123 rfl (lv_at hl 3 rfl) ?_
                refine k_get (ci := 11) (v := .ref a0.2.2.2.2.1) (C := RX11) (T := TX11) (N := 14) hx hb hts hown hz hw (by decide +kernel) 0 rfl rfl 7 (by decide) (hts (.fieldLink RX11 19 "OccupancyMonitorModel" "read" "[I") (by decide +kernel)) (fun _ h9 => h9) rfl dX11_readsStep_124 ?_
                refine lv_iconst (v := 3) hx hb dX11_readsStep_127 (by decide) ?_
                refine lv_aload_n hx hb dX11_readsStep_128 rfl (lv_at hl 3 rfl) ?_
                refine k_get (ci := 11) (v := .int o43.2.2.2.2.2.2.2.2.2.1) (C := RX11) (T := TX11) (N := 14) hx hb hts hown hz hw (by decide +kernel) 0 rfl rfl 8 (by decide) (hts (.fieldLink RX11 87 "OccupancyMonitorModel" "readMany" "I") (by decide +kernel)) (fun _ h9 => h9) rfl dX11_readsStep_129 ?_
                refine lv_imul hx hb dX11_readsStep_132 ?_
                refine lv_iconst (v := 2) hx hb dX11_readsStep_133 (by decide) ?_
                refine lv_iadd hx hb dX11_readsStep_134 ?_
                refine lv_iload_n hx hb dX11_readsStep_135 rfl (lv_at hl 0 rfl) ?_
                obtain ⟨g49, hsp⟩ := grd_of hsp
                obtain ⟨f50, ef50⟩ : ∃ u : Nat → Int32, u = (upd f48 (((3 : Int32) * o43.2.2.2.2.2.2.2.2.2.1) + (2 : Int32)).toNatClampNeg o41.1) := ⟨_, rfl⟩
                have hsp := lt_of hsp ef50
                refine k_iast (bs1 := [[(a0.1, .inr (11, [.ref a0.2.1, .ref a0.2.2.1, .int o43.2.2.2.1, .int o43.2.2.2.2.1, .ref a0.2.2.2.1, .int o43.2.2.2.2.2.2.1, .int o43.2.2.2.2.2.2.2.1, .ref a0.2.2.2.2.1, .int o43.2.2.2.2.2.2.2.2.2.1, .int o43.2.2.2.2.2.2.2.2.2.2.1, .int o43.2.2.2.2.2.2.2.2.2.2.2.1, .int o43.2.2.2.2.2.2.2.2.2.2.2.2.1, .ref a0.2.2.2.2.2, .int o43.2.2.2.2.2.2.2.2.2.2.2.2.2.2]))], [(a0.2.1, .inl (cA, o43.2.1.1, .inl o43.2.1.2))], [(a0.2.2.1, .inl (cA, o43.2.2.1.1, .inl o43.2.2.1.2))], [(a0.2.2.2.1, .inl (cA, o43.2.2.2.2.2.1.1, .inl o43.2.2.2.2.2.1.2))], [(a0.2.2.2.2.1, .inl (cA, o43.2.2.2.2.2.2.2.2.1.1, .inl f50))], [(a0.2.2.2.2.2, .inl (cA, o43.2.2.2.2.2.2.2.2.2.2.2.2.2.1.1, .inl o43.2.2.2.2.2.2.2.2.2.2.2.2.2.1.2))]]) hx hb hz hw 4 rfl g49 dX11_readsStep_136 (by rw [ef50]; rfl) (fun H locs hw => ?_)
                refine lv_aload_n hx hb dX11_readsStep_137 rfl (lv_at hl 3 rfl) ?_
                refine lv_dup hx hb dX11_readsStep_138 rfl ?_
                refine k_get (ci := 11) (v := .int o43.2.2.2.2.2.2.2.2.2.1) (C := RX11) (T := TX11) (N := 14) hx hb hts hown hz hw (by decide +kernel) 0 rfl rfl 8 (by decide) (hts (.fieldLink RX11 87 "OccupancyMonitorModel" "readMany" "I") (by decide +kernel)) (fun _ h9 => h9) rfl dX11_readsStep_139 ?_
                refine lv_iconst (v := 1) hx hb dX11_readsStep_142 (by decide) ?_
                refine lv_iadd hx hb dX11_readsStep_143 ?_
                refine k_put (ci := 11) (v := .int (o43.2.2.2.2.2.2.2.2.2.1 + (1 : Int32))) (ty := .int) (C := RX11) (T := TX11) (N := 14) (bs1 := [[(a0.1, .inr (11, [.ref a0.2.1, .ref a0.2.2.1, .int o43.2.2.2.1, .int o43.2.2.2.2.1, .ref a0.2.2.2.1, .int o43.2.2.2.2.2.2.1, .int o43.2.2.2.2.2.2.2.1, .ref a0.2.2.2.2.1, .int (o43.2.2.2.2.2.2.2.2.2.1 + (1 : Int32)), .int o43.2.2.2.2.2.2.2.2.2.2.1, .int o43.2.2.2.2.2.2.2.2.2.2.2.1, .int o43.2.2.2.2.2.2.2.2.2.2.2.2.1, .ref a0.2.2.2.2.2, .int o43.2.2.2.2.2.2.2.2.2.2.2.2.2.2]))], [(a0.2.1, .inl (cA, o43.2.1.1, .inl o43.2.1.2))], [(a0.2.2.1, .inl (cA, o43.2.2.1.1, .inl o43.2.2.1.2))], [(a0.2.2.2.1, .inl (cA, o43.2.2.2.2.2.1.1, .inl o43.2.2.2.2.2.1.2))], [(a0.2.2.2.2.1, .inl (cA, o43.2.2.2.2.2.2.2.2.1.1, .inl f50))], [(a0.2.2.2.2.2, .inl (cA, o43.2.2.2.2.2.2.2.2.2.2.2.2.2.1.1, .inl o43.2.2.2.2.2.2.2.2.2.2.2.2.2.1.2))]]) hx hb hts hown hz hw (by decide +kernel) tyX11 tyX11_ok nmX11 0 rfl rfl 8 (by decide) (hts (.fieldLink RX11 87 "OccupancyMonitorModel" "readMany" "I") (by decide +kernel)) (fun _ h9 => h9) rfl (by decide +kernel) rfl rfl (Nat.le_of_ble_eq_true rfl) dX11_readsStep_144 rfl (fun H locs hw => ?_)
                refine lv_iconst (v := 1) hx hb dX11_readsStep_147 (by decide) ?_
                have hsp := Option.some.inj hsp
                subst hsp
                have hw : ww A s.heap D [w11 cA a0 (o43.2.1, o43.2.2.1, o43.2.2.2.1, o43.2.2.2.2.1, o43.2.2.2.2.2.1, o43.2.2.2.2.2.2.1, o43.2.2.2.2.2.2.2.1, (o43.2.2.2.2.2.2.2.2.1.1, f50), (o43.2.2.2.2.2.2.2.2.2.1 + (1 : Int32)), o43.2.2.2.2.2.2.2.2.2.2.1, o43.2.2.2.2.2.2.2.2.2.2.2.1, o43.2.2.2.2.2.2.2.2.2.2.2.2.1, o43.2.2.2.2.2.2.2.2.2.2.2.2.2.1, o43.2.2.2.2.2.2.2.2.2.2.2.2.2.2)] H locs := hw
                subst hQ
                exact k_zret (v := (1 : Int32)) hx hb hr hlk rfl hw dX11_readsStep_148
              · have hsp := ift c44 hsp
                refine lv_iconst (v := 0) hx hb dX11_readsStep_95 (by decide) ?_
                have hsp := Option.some.inj hsp
                subst hsp
                have hw : ww A s.heap D [w11 cA a0 o43.2] H locs := hw
                subst hQ
                exact k_zret (v := (0 : Int32)) hx hb hr hlk rfl hw dX11_readsStep_96
          · have hsp := ift c40 hsp
            refine lv_iconst (v := 0) hx hb dX11_readsStep_71 (by decide) ?_
            have hsp := Option.some.inj hsp
            subst hsp
            have hw : ww A s.heap D [w11 cA a0 o39.2] H locs := hw
            subst hQ
            exact k_zret (v := (0 : Int32)) hx hb hr hlk rfl hw dX11_readsStep_72
        · have hsp := iff_ c38 hsp
          refine lv_aload_n hx hb dX11_readsStep_47 rfl (lv_at hl 2 rfl) ?_
          refine lv_iload_n hx hb dX11_readsStep_48 rfl (lv_at hl 1 rfl) ?_
          refine lv_bipush (v := 31) hx hb dX11_readsStep_49 (by decide) ?_
          have hw : ww A s.heap D [w11 cA a0 o37.2] H locs := hw
          obtain ⟨o51, hso51, hsp⟩ := bnd_of hsp
          refine k_callV (ci := 11) (C := RX11) (T := TX11) (N := 14) (nA := 2) (As := [.int o35.1, .int (31 : Int32)]) (cs := [w11 cA a0 o37.2]) (rs := []) (cs1 := [w11 cA a0 o51.2]) (bs1 := [w11 cA a0 o51.2]) (rest := []) (st1 := [.int o51.1]) ⟨hx, hb, hml, hown, hts⟩ hz hw hA (mX11_number l D cA cR N a0 o37.2 o35.1 (31 : Int32) o51 hso51) gX11_readsStep_X11_number rfl rfl rfl (by decide +kernel) rfl ⟨Nat.le_of_ble_eq_true rfl, Nat.le_of_ble_eq_true rfl⟩ rfl rfl hl.1 rfl (Nat.le_of_ble_eq_true rfl) dX11_readsStep_51 ⟨Nat.le_of_ble_eq_true rfl, Nat.le_of_ble_eq_true rfl⟩ [0] [] [0] rfl rfl rfl rfl rfl rfl (fun H locs hw => ?_)
          have hw : ww A s.heap D [[(a0.1, .inr (11, [.ref a0.2.1, .ref a0.2.2.1, .int o51.2.2.2.1, .int o51.2.2.2.2.1, .ref a0.2.2.2.1, .int o51.2.2.2.2.2.2.1, .int o51.2.2.2.2.2.2.2.1, .ref a0.2.2.2.2.1, .int o51.2.2.2.2.2.2.2.2.2.1, .int o51.2.2.2.2.2.2.2.2.2.2.1, .int o51.2.2.2.2.2.2.2.2.2.2.2.1, .int o51.2.2.2.2.2.2.2.2.2.2.2.2.1, .ref a0.2.2.2.2.2, .int o51.2.2.2.2.2.2.2.2.2.2.2.2.2.2]))], [(a0.2.1, .inl (cA, o51.2.1.1, .inl o51.2.1.2))], [(a0.2.2.1, .inl (cA, o51.2.2.1.1, .inl o51.2.2.1.2))], [(a0.2.2.2.1, .inl (cA, o51.2.2.2.2.2.1.1, .inl o51.2.2.2.2.2.1.2))], [(a0.2.2.2.2.1, .inl (cA, o51.2.2.2.2.2.2.2.2.1.1, .inl o51.2.2.2.2.2.2.2.2.1.2))], [(a0.2.2.2.2.2, .inl (cA, o51.2.2.2.2.2.2.2.2.2.2.2.2.2.1.1, .inl o51.2.2.2.2.2.2.2.2.2.2.2.2.2.1.2))]] H locs := hw
          refine lv_istore_n (lv' := [(2, .int o51.1), (1, .int o35.1), (0, .ref a0.1)]) hx hb dX11_readsStep_54 rfl hl (by decide) rfl (fun ls hl => ?_)
          refine lv_iload_n hx hb dX11_readsStep_55 rfl (lv_at hl 0 rfl) ?_
          refine lv_iconst (v := -1) hx hb dX11_readsStep_56 (by decide) ?_
          refine lv_icmp_ne (tgt := 62) hx hb dX11_readsStep_57 (by decide) (fun c52 => ?_) (fun c52 => ?_)
          · have hsp := iff_ c52 hsp
            refine lv_aload_n hx hb dX11_readsStep_62 rfl (lv_at hl 2 rfl) ?_
            refine lv_bipush (v := 58) hx hb dX11_readsStep_63 (by decide) ?_
            have hw : ww A s.heap D [w11 cA a0 o51.2] H locs := hw
            obtain ⟨o53, hso53, hsp⟩ := bnd_of hsp
            refine k_callV (ci := 11) (C := RX11) (T := TX11) (N := 14) (nA := 1) (As := [.int (58 : Int32)]) (cs := [w11 cA a0 o51.2]) (rs := []) (cs1 := [w11 cA a0 o53.2]) (bs1 := [w11 cA a0 o53.2]) (rest := []) (st1 := [.int o53.1]) ⟨hx, hb, hml, hown, hts⟩ hz hw hA (mX11_passes l D cA cR a0 o51.2 (58 : Int32) o53 hso53) gX11_readsStep_X11_passes rfl rfl rfl (by decide +kernel) rfl ⟨Nat.le_of_ble_eq_true rfl, Nat.le_of_ble_eq_true rfl⟩ rfl rfl hl.1 rfl (Nat.le_of_ble_eq_true rfl) dX11_readsStep_65 ⟨Nat.le_of_ble_eq_true rfl, Nat.le_of_ble_eq_true rfl⟩ [0] [] [0] rfl rfl rfl rfl rfl rfl (fun H locs hw => ?_)
            have hw : ww A s.heap D [[(a0.1, .inr (11, [.ref a0.2.1, .ref a0.2.2.1, .int o53.2.2.2.1, .int o53.2.2.2.2.1, .ref a0.2.2.2.1, .int o53.2.2.2.2.2.2.1, .int o53.2.2.2.2.2.2.2.1, .ref a0.2.2.2.2.1, .int o53.2.2.2.2.2.2.2.2.2.1, .int o53.2.2.2.2.2.2.2.2.2.2.1, .int o53.2.2.2.2.2.2.2.2.2.2.2.1, .int o53.2.2.2.2.2.2.2.2.2.2.2.2.1, .ref a0.2.2.2.2.2, .int o53.2.2.2.2.2.2.2.2.2.2.2.2.2.2]))], [(a0.2.1, .inl (cA, o53.2.1.1, .inl o53.2.1.2))], [(a0.2.2.1, .inl (cA, o53.2.2.1.1, .inl o53.2.2.1.2))], [(a0.2.2.2.1, .inl (cA, o53.2.2.2.2.2.1.1, .inl o53.2.2.2.2.2.1.2))], [(a0.2.2.2.2.1, .inl (cA, o53.2.2.2.2.2.2.2.2.1.1, .inl o53.2.2.2.2.2.2.2.2.1.2))], [(a0.2.2.2.2.2, .inl (cA, o53.2.2.2.2.2.2.2.2.2.2.2.2.2.1.1, .inl o53.2.2.2.2.2.2.2.2.2.2.2.2.2.1.2))]] H locs := hw
            refine lv_if_ne (tgt := 73) hx hb dX11_readsStep_68 (by decide) (fun c54 => ?_) (fun c54 => ?_)
            · have hsp := iff_ c54 hsp
              refine lv_aload_n hx hb dX11_readsStep_73 rfl (lv_at hl 2 rfl) ?_
              refine lv_iconst (v := 1) hx hb dX11_readsStep_74 (by decide) ?_
              refine lv_bipush (v := 20) hx hb dX11_readsStep_75 (by decide) ?_
              have hw : ww A s.heap D [w11 cA a0 o53.2] H locs := hw
              obtain ⟨o55, hso55, hsp⟩ := bnd_of hsp
              refine k_callV (ci := 11) (C := RX11) (T := TX11) (N := 14) (nA := 2) (As := [.int (1 : Int32), .int (20 : Int32)]) (cs := [w11 cA a0 o53.2]) (rs := []) (cs1 := [w11 cA a0 o55.2]) (bs1 := [w11 cA a0 o55.2]) (rest := []) (st1 := [.int o55.1]) ⟨hx, hb, hml, hown, hts⟩ hz hw hA (mX11_number l D cA cR N a0 o53.2 (1 : Int32) (20 : Int32) o55 hso55) gX11_readsStep_X11_number rfl rfl rfl (by decide +kernel) rfl ⟨Nat.le_of_ble_eq_true rfl, Nat.le_of_ble_eq_true rfl⟩ rfl rfl hl.1 rfl (Nat.le_of_ble_eq_true rfl) dX11_readsStep_77 ⟨Nat.le_of_ble_eq_true rfl, Nat.le_of_ble_eq_true rfl⟩ [0] [] [0] rfl rfl rfl rfl rfl rfl (fun H locs hw => ?_)
              have hw : ww A s.heap D [[(a0.1, .inr (11, [.ref a0.2.1, .ref a0.2.2.1, .int o55.2.2.2.1, .int o55.2.2.2.2.1, .ref a0.2.2.2.1, .int o55.2.2.2.2.2.2.1, .int o55.2.2.2.2.2.2.2.1, .ref a0.2.2.2.2.1, .int o55.2.2.2.2.2.2.2.2.2.1, .int o55.2.2.2.2.2.2.2.2.2.2.1, .int o55.2.2.2.2.2.2.2.2.2.2.2.1, .int o55.2.2.2.2.2.2.2.2.2.2.2.2.1, .ref a0.2.2.2.2.2, .int o55.2.2.2.2.2.2.2.2.2.2.2.2.2.2]))], [(a0.2.1, .inl (cA, o55.2.1.1, .inl o55.2.1.2))], [(a0.2.2.1, .inl (cA, o55.2.2.1.1, .inl o55.2.2.1.2))], [(a0.2.2.2.1, .inl (cA, o55.2.2.2.2.2.1.1, .inl o55.2.2.2.2.2.1.2))], [(a0.2.2.2.2.1, .inl (cA, o55.2.2.2.2.2.2.2.2.1.1, .inl o55.2.2.2.2.2.2.2.2.1.2))], [(a0.2.2.2.2.2, .inl (cA, o55.2.2.2.2.2.2.2.2.2.2.2.2.2.1.1, .inl o55.2.2.2.2.2.2.2.2.2.2.2.2.2.1.2))]] H locs := hw
              refine lv_istore_n (lv' := [(3, .int o55.1), (2, .int o51.1), (1, .int o35.1), (0, .ref a0.1)]) hx hb dX11_readsStep_80 rfl hl (by decide) rfl (fun ls hl => ?_)
              refine lv_iload_n hx hb dX11_readsStep_81 rfl (lv_at hl 0 rfl) ?_
              refine lv_iconst (v := -1) hx hb dX11_readsStep_82 (by decide) ?_
              refine lv_icmp_eq (tgt := 95) hx hb dX11_readsStep_83 (by decide) (fun c56 => ?_) (fun c56 => ?_)
              · have hsp := ift c56 hsp
                refine lv_iconst (v := 0) hx hb dX11_readsStep_95 (by decide) ?_
                have hsp := Option.some.inj hsp
                subst hsp
                have hw : ww A s.heap D [w11 cA a0 o55.2] H locs := hw
                subst hQ
                exact k_zret (v := (0 : Int32)) hx hb hr hlk rfl hw dX11_readsStep_96
              · have hsp := iff_ c56 hsp
                refine lv_aload_n hx hb dX11_readsStep_86 rfl (lv_at hl 3 rfl) ?_
                refine lv_bipush (v := 59) hx hb dX11_readsStep_87 (by decide) ?_
                have hw : ww A s.heap D [w11 cA a0 o55.2] H locs := hw
                obtain ⟨o57, hso57, hsp⟩ := bnd_of hsp
                refine k_callV (ci := 11) (C := RX11) (T := TX11) (N := 14) (nA := 1) (As := [.int (59 : Int32)]) (cs := [w11 cA a0 o55.2]) (rs := []) (cs1 := [w11 cA a0 o57.2]) (bs1 := [w11 cA a0 o57.2]) (rest := []) (st1 := [.int o57.1]) ⟨hx, hb, hml, hown, hts⟩ hz hw hA (mX11_passes l D cA cR a0 o55.2 (59 : Int32) o57 hso57) gX11_readsStep_X11_passes rfl rfl rfl (by decide +kernel) rfl ⟨Nat.le_of_ble_eq_true rfl, Nat.le_of_ble_eq_true rfl⟩ rfl rfl hl.1 rfl (Nat.le_of_ble_eq_true rfl) dX11_readsStep_89 ⟨Nat.le_of_ble_eq_true rfl, Nat.le_of_ble_eq_true rfl⟩ [0] [] [0] rfl rfl rfl rfl rfl rfl (fun H locs hw => ?_)
                have hw : ww A s.heap D [[(a0.1, .inr (11, [.ref a0.2.1, .ref a0.2.2.1, .int o57.2.2.2.1, .int o57.2.2.2.2.1, .ref a0.2.2.2.1, .int o57.2.2.2.2.2.2.1, .int o57.2.2.2.2.2.2.2.1, .ref a0.2.2.2.2.1, .int o57.2.2.2.2.2.2.2.2.2.1, .int o57.2.2.2.2.2.2.2.2.2.2.1, .int o57.2.2.2.2.2.2.2.2.2.2.2.1, .int o57.2.2.2.2.2.2.2.2.2.2.2.2.1, .ref a0.2.2.2.2.2, .int o57.2.2.2.2.2.2.2.2.2.2.2.2.2.2]))], [(a0.2.1, .inl (cA, o57.2.1.1, .inl o57.2.1.2))], [(a0.2.2.1, .inl (cA, o57.2.2.1.1, .inl o57.2.2.1.2))], [(a0.2.2.2.1, .inl (cA, o57.2.2.2.2.2.1.1, .inl o57.2.2.2.2.2.1.2))], [(a0.2.2.2.2.1, .inl (cA, o57.2.2.2.2.2.2.2.2.1.1, .inl o57.2.2.2.2.2.2.2.2.1.2))], [(a0.2.2.2.2.2, .inl (cA, o57.2.2.2.2.2.2.2.2.2.2.2.2.2.1.1, .inl o57.2.2.2.2.2.2.2.2.2.2.2.2.2.1.2))]] H locs := hw
                refine lv_if_ne (tgt := 97) hx hb dX11_readsStep_92 (by decide) (fun c58 => ?_) (fun c58 => ?_)
                · have hsp := iff_ c58 hsp
                  refine lv_aload_n hx hb dX11_readsStep_97 rfl (lv_at hl 3 rfl) ?_
                  refine k_get (ci := 11) (v := .ref a0.2.2.2.2.1) (C := RX11) (T := TX11) (N := 14) hx hb hts hown hz hw (by decide +kernel) 0 rfl rfl 7 (by decide) (hts (.fieldLink RX11 19 "OccupancyMonitorModel" "read" "[I") (by decide +kernel)) (fun _ h9 => h9) rfl dX11_readsStep_98 ?_
                  refine lv_iconst (v := 3) hx hb dX11_readsStep_101 (by decide) ?_
                  refine lv_aload_n hx hb dX11_readsStep_102 rfl (lv_at hl 3 rfl) ?_
                  refine k_get (ci := 11) (v := .int o57.2.2.2.2.2.2.2.2.2.1) (C := RX11) (T := TX11) (N := 14) hx hb hts hown hz hw (by decide +kernel) 0 rfl rfl 8 (by decide) (hts (.fieldLink RX11 87 "OccupancyMonitorModel" "readMany" "I") (by decide +kernel)) (fun _ h9 => h9) rfl dX11_readsStep_103 ?_
                  refine lv_imul hx hb dX11_readsStep_106 ?_
                  refine lv_iload_n hx hb dX11_readsStep_107 rfl (lv_at hl 2 rfl) ?_
                  obtain ⟨g59, hsp⟩ := grd_of hsp
                  obtain ⟨f60, ef60⟩ : ∃ u : Nat → Int32, u = (upd o57.2.2.2.2.2.2.2.2.1.2 ((3 : Int32) * o57.2.2.2.2.2.2.2.2.2.1).toNatClampNeg o35.1) := ⟨_, rfl⟩
                  have hsp := lt_of hsp ef60
                  refine k_iast (bs1 := [[(a0.1, .inr (11, [.ref a0.2.1, .ref a0.2.2.1, .int o57.2.2.2.1, .int o57.2.2.2.2.1, .ref a0.2.2.2.1, .int o57.2.2.2.2.2.2.1, .int o57.2.2.2.2.2.2.2.1, .ref a0.2.2.2.2.1, .int o57.2.2.2.2.2.2.2.2.2.1, .int o57.2.2.2.2.2.2.2.2.2.2.1, .int o57.2.2.2.2.2.2.2.2.2.2.2.1, .int o57.2.2.2.2.2.2.2.2.2.2.2.2.1, .ref a0.2.2.2.2.2, .int o57.2.2.2.2.2.2.2.2.2.2.2.2.2.2]))], [(a0.2.1, .inl (cA, o57.2.1.1, .inl o57.2.1.2))], [(a0.2.2.1, .inl (cA, o57.2.2.1.1, .inl o57.2.2.1.2))], [(a0.2.2.2.1, .inl (cA, o57.2.2.2.2.2.1.1, .inl o57.2.2.2.2.2.1.2))], [(a0.2.2.2.2.1, .inl (cA, o57.2.2.2.2.2.2.2.2.1.1, .inl f60))], [(a0.2.2.2.2.2, .inl (cA, o57.2.2.2.2.2.2.2.2.2.2.2.2.2.1.1, .inl o57.2.2.2.2.2.2.2.2.2.2.2.2.2.1.2))]]) hx hb hz hw 4 rfl g59 dX11_readsStep_108 (by rw [ef60]; rfl) (fun H locs hw => ?_)
                  refine lv_aload_n hx hb dX11_readsStep_109 rfl (lv_at hl 3 rfl) ?_
                  refine k_get (ci := 11) (v := .ref a0.2.2.2.2.1) (C := RX11) (T := TX11) (N := 14) hx hb hts hown hz hw (by decide +kernel) 0 rfl rfl 7 (by decide) (hts (.fieldLink RX11 19 "OccupancyMonitorModel" "read" "[I") (by decide +kernel)) (fun _ h9 => h9) rfl dX11_readsStep_110 ?_
                  refine lv_iconst (v := 3) hx hb dX11_readsStep_113 (by decide) ?_
                  refine lv_aload_n hx hb dX11_readsStep_114 rfl (lv_at hl 3 rfl) ?_
                  refine k_get (ci := 11) (v := .int o57.2.2.2.2.2.2.2.2.2.1) (C := RX11) (T := TX11) (N := 14) hx hb hts hown hz hw (by decide +kernel) 0 rfl rfl 8 (by decide) (hts (.fieldLink RX11 87 "OccupancyMonitorModel" "readMany" "I") (by decide +kernel)) (fun _ h9 => h9) rfl dX11_readsStep_115 ?_
                  refine lv_imul hx hb dX11_readsStep_118 ?_
                  refine lv_iconst (v := 1) hx hb dX11_readsStep_119 (by decide) ?_
                  refine lv_iadd hx hb dX11_readsStep_120 ?_
                  refine lv_iload_n hx hb dX11_readsStep_121 rfl (lv_at hl 1 rfl) ?_
                  obtain ⟨g61, hsp⟩ := grd_of hsp
                  obtain ⟨f62, ef62⟩ : ∃ u : Nat → Int32, u = (upd f60 (((3 : Int32) * o57.2.2.2.2.2.2.2.2.2.1) + (1 : Int32)).toNatClampNeg o51.1) := ⟨_, rfl⟩
                  have hsp := lt_of hsp ef62
                  refine k_iast (bs1 := [[(a0.1, .inr (11, [.ref a0.2.1, .ref a0.2.2.1, .int o57.2.2.2.1, .int o57.2.2.2.2.1, .ref a0.2.2.2.1, .int o57.2.2.2.2.2.2.1, .int o57.2.2.2.2.2.2.2.1, .ref a0.2.2.2.2.1, .int o57.2.2.2.2.2.2.2.2.2.1, .int o57.2.2.2.2.2.2.2.2.2.2.1, .int o57.2.2.2.2.2.2.2.2.2.2.2.1, .int o57.2.2.2.2.2.2.2.2.2.2.2.2.1, .ref a0.2.2.2.2.2, .int o57.2.2.2.2.2.2.2.2.2.2.2.2.2.2]))], [(a0.2.1, .inl (cA, o57.2.1.1, .inl o57.2.1.2))], [(a0.2.2.1, .inl (cA, o57.2.2.1.1, .inl o57.2.2.1.2))], [(a0.2.2.2.1, .inl (cA, o57.2.2.2.2.2.1.1, .inl o57.2.2.2.2.2.1.2))], [(a0.2.2.2.2.1, .inl (cA, o57.2.2.2.2.2.2.2.2.1.1, .inl f62))], [(a0.2.2.2.2.2, .inl (cA, o57.2.2.2.2.2.2.2.2.2.2.2.2.2.1.1, .inl o57.2.2.2.2.2.2.2.2.2.2.2.2.2.1.2))]]) hx hb hz hw 4 rfl g61 dX11_readsStep_122 (by rw [ef62]; rfl) (fun H locs hw => ?_)
                  refine lv_aload_n hx hb dX11_readsStep_123 rfl (lv_at hl 3 rfl) ?_
                  refine k_get (ci := 11) (v := .ref a0.2.2.2.2.1) (C := RX11) (T := TX11) (N := 14) hx hb hts hown hz hw (by decide +kernel) 0 rfl rfl 7 (by decide) (hts (.fieldLink RX11 19 "OccupancyMonitorModel" "read" "[I") (by decide +kernel)) (fun _ h9 => h9) rfl dX11_readsStep_124 ?_
                  refine lv_iconst (v := 3) hx hb dX11_readsStep_127 (by decide) ?_
                  refine lv_aload_n hx hb dX11_readsStep_128 rfl (lv_at hl 3 rfl) ?_
                  refine k_get (ci := 11) (v := .int o57.2.2.2.2.2.2.2.2.2.1) (C := RX11) (T := TX11) (N := 14) hx hb hts hown hz hw (by decide +kernel) 0 rfl rfl 8 (by decide) (hts (.fieldLink RX11 87 "OccupancyMonitorModel" "readMany" "I") (by decide +kernel)) (fun _ h9 => h9) rfl dX11_readsStep_129 ?_
                  refine lv_imul hx hb dX11_readsStep_132 ?_
                  refine lv_iconst (v := 2) hx hb dX11_readsStep_133 (by decide) ?_
                  refine lv_iadd hx hb dX11_readsStep_134 ?_
                  refine lv_iload_n hx hb dX11_readsStep_135 rfl (lv_at hl 0 rfl) ?_
                  obtain ⟨g63, hsp⟩ := grd_of hsp
                  obtain ⟨f64, ef64⟩ : ∃ u : Nat → Int32, u = (upd f62 (((3 : Int32) * o57.2.2.2.2.2.2.2.2.2.1) + (2 : Int32)).toNatClampNeg o55.1) := ⟨_, rfl⟩
                  have hsp := lt_of hsp ef64
                  refine k_iast (bs1 := [[(a0.1, .inr (11, [.ref a0.2.1, .ref a0.2.2.1, .int o57.2.2.2.1, .int o57.2.2.2.2.1, .ref a0.2.2.2.1, .int o57.2.2.2.2.2.2.1, .int o57.2.2.2.2.2.2.2.1, .ref a0.2.2.2.2.1, .int o57.2.2.2.2.2.2.2.2.2.1, .int o57.2.2.2.2.2.2.2.2.2.2.1, .int o57.2.2.2.2.2.2.2.2.2.2.2.1, .int o57.2.2.2.2.2.2.2.2.2.2.2.2.1, .ref a0.2.2.2.2.2, .int o57.2.2.2.2.2.2.2.2.2.2.2.2.2.2]))], [(a0.2.1, .inl (cA, o57.2.1.1, .inl o57.2.1.2))], [(a0.2.2.1, .inl (cA, o57.2.2.1.1, .inl o57.2.2.1.2))], [(a0.2.2.2.1, .inl (cA, o57.2.2.2.2.2.1.1, .inl o57.2.2.2.2.2.1.2))], [(a0.2.2.2.2.1, .inl (cA, o57.2.2.2.2.2.2.2.2.1.1, .inl f64))], [(a0.2.2.2.2.2, .inl (cA, o57.2.2.2.2.2.2.2.2.2.2.2.2.2.1.1, .inl o57.2.2.2.2.2.2.2.2.2.2.2.2.2.1.2))]]) hx hb hz hw 4 rfl g63 dX11_readsStep_136 (by rw [ef64]; rfl) (fun H locs hw => ?_)
                  refine lv_aload_n hx hb dX11_readsStep_137 rfl (lv_at hl 3 rfl) ?_
                  refine lv_dup hx hb dX11_readsStep_138 rfl ?_
                  refine k_get (ci := 11) (v := .int o57.2.2.2.2.2.2.2.2.2.1) (C := RX11) (T := TX11) (N := 14) hx hb hts hown hz hw (by decide +kernel) 0 rfl rfl 8 (by decide) (hts (.fieldLink RX11 87 "OccupancyMonitorModel" "readMany" "I") (by decide +kernel)) (fun _ h9 => h9) rfl dX11_readsStep_139 ?_
                  refine lv_iconst (v := 1) hx hb dX11_readsStep_142 (by decide) ?_
                  refine lv_iadd hx hb dX11_readsStep_143 ?_
                  refine k_put (ci := 11) (v := .int (o57.2.2.2.2.2.2.2.2.2.1 + (1 : Int32))) (ty := .int) (C := RX11) (T := TX11) (N := 14) (bs1 := [[(a0.1, .inr (11, [.ref a0.2.1, .ref a0.2.2.1, .int o57.2.2.2.1, .int o57.2.2.2.2.1, .ref a0.2.2.2.1, .int o57.2.2.2.2.2.2.1, .int o57.2.2.2.2.2.2.2.1, .ref a0.2.2.2.2.1, .int (o57.2.2.2.2.2.2.2.2.2.1 + (1 : Int32)), .int o57.2.2.2.2.2.2.2.2.2.2.1, .int o57.2.2.2.2.2.2.2.2.2.2.2.1, .int o57.2.2.2.2.2.2.2.2.2.2.2.2.1, .ref a0.2.2.2.2.2, .int o57.2.2.2.2.2.2.2.2.2.2.2.2.2.2]))], [(a0.2.1, .inl (cA, o57.2.1.1, .inl o57.2.1.2))], [(a0.2.2.1, .inl (cA, o57.2.2.1.1, .inl o57.2.2.1.2))], [(a0.2.2.2.1, .inl (cA, o57.2.2.2.2.2.1.1, .inl o57.2.2.2.2.2.1.2))], [(a0.2.2.2.2.1, .inl (cA, o57.2.2.2.2.2.2.2.2.1.1, .inl f64))], [(a0.2.2.2.2.2, .inl (cA, o57.2.2.2.2.2.2.2.2.2.2.2.2.2.1.1, .inl o57.2.2.2.2.2.2.2.2.2.2.2.2.2.1.2))]]) hx hb hts hown hz hw (by decide +kernel) tyX11 tyX11_ok nmX11 0 rfl rfl 8 (by decide) (hts (.fieldLink RX11 87 "OccupancyMonitorModel" "readMany" "I") (by decide +kernel)) (fun _ h9 => h9) rfl (by decide +kernel) rfl rfl (Nat.le_of_ble_eq_true rfl) dX11_readsStep_144 rfl (fun H locs hw => ?_)
                  refine lv_iconst (v := 1) hx hb dX11_readsStep_147 (by decide) ?_
                  have hsp := Option.some.inj hsp
                  subst hsp
                  have hw : ww A s.heap D [w11 cA a0 (o57.2.1, o57.2.2.1, o57.2.2.2.1, o57.2.2.2.2.1, o57.2.2.2.2.2.1, o57.2.2.2.2.2.2.1, o57.2.2.2.2.2.2.2.1, (o57.2.2.2.2.2.2.2.2.1.1, f64), (o57.2.2.2.2.2.2.2.2.2.1 + (1 : Int32)), o57.2.2.2.2.2.2.2.2.2.2.1, o57.2.2.2.2.2.2.2.2.2.2.2.1, o57.2.2.2.2.2.2.2.2.2.2.2.2.1, o57.2.2.2.2.2.2.2.2.2.2.2.2.2.1, o57.2.2.2.2.2.2.2.2.2.2.2.2.2.2)] H locs := hw
                  subst hQ
                  exact k_zret (v := (1 : Int32)) hx hb hr hlk rfl hw dX11_readsStep_148
                · have hsp := ift c58 hsp
                  refine lv_iconst (v := 0) hx hb dX11_readsStep_95 (by decide) ?_
                  have hsp := Option.some.inj hsp
                  subst hsp
                  have hw : ww A s.heap D [w11 cA a0 o57.2] H locs := hw
                  subst hQ
                  exact k_zret (v := (0 : Int32)) hx hb hr hlk rfl hw dX11_readsStep_96
            · have hsp := ift c54 hsp
              refine lv_iconst (v := 0) hx hb dX11_readsStep_71 (by decide) ?_
              have hsp := Option.some.inj hsp
              subst hsp
              have hw : ww A s.heap D [w11 cA a0 o53.2] H locs := hw
              subst hQ
              exact k_zret (v := (0 : Int32)) hx hb hr hlk rfl hw dX11_readsStep_72
          · have hsp := ift c52 hsp
            refine lv_iconst (v := 0) hx hb dX11_readsStep_60 (by decide) ?_
            have hsp := Option.some.inj hsp
            subst hsp
            have hw : ww A s.heap D [w11 cA a0 o51.2] H locs := hw
            subst hQ
            exact k_zret (v := (0 : Int32)) hx hb hr hlk rfl hw dX11_readsStep_61
      · have hsp := ift c36 hsp
        refine lv_iconst (v := 0) hx hb dX11_readsStep_34 (by decide) ?_
        have hsp := Option.some.inj hsp
        subst hsp
        have hw : ww A s.heap D [w11 cA a0 o35.2] H locs := hw
        subst hQ
        exact k_zret (v := (0 : Int32)) hx hb hr hlk rfl hw dX11_readsStep_35
    · have hsp := iff_ c34 hsp
      refine lv_iconst (v := 0) hx hb dX11_readsStep_19 (by decide) ?_
      have hsp := Option.some.inj hsp
      subst hsp
      have hw : ww A s.heap D [w11 cA a0 v0] H locs := hw
      subst hQ
      exact k_zret (v := (0 : Int32)) hx hb hr hlk rfl hw dX11_readsStep_20
