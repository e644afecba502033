noncomputable def sX11_thrown (v0 : V11) : Option (Int32) := (some v0.2.2.2.1)
abbrev rX11_thrown : Room := { frames := 0, cells := 0, slots := 0, locals := 0 }
set_option maxHeartbeats 4000000 in
set_option maxRecDepth 100000 in
theorem mX11_thrown (l : Launch) (D : va_G) (cA cR : ClassId) (a0 : A11) (v0 : V11) (o : Int32) (hsp : sX11_thrown v0 = some o) : MI l yX11_thrown wsX11_thrown rX11_thrown D cA cR [.ref a0.1] [w11 cA a0 v0] (some (.int o)) [w11 cA a0 v0] 0 0 := by
  have hsp : (some v0.2.2.2.1) = some o := hsp
  refine MI.ofW (cc := cX11_thrown) (maxL := 1) (ret := (some .int)) (by decide) rfl (Nat.le_of_ble_eq_true rfl) ?_
  intro p e s m args below meth c A ls Q H locs hx hb hr hlk hml hown hnm hts hz hA hQ hw hl
  have hl : lv_has ls 1 [(0, .ref a0.1)] := hl
  have hw : ww A s.heap D [[(a0.1, .inr (11, [.ref a0.2.1, .ref a0.2.2.1, .int v0.2.2.1, .int v0.2.2.2.1, .ref a0.2.2.2.1, .int v0.2.2.2.2.2.1, .int v0.2.2.2.2.2.2.1, .ref a0.2.2.2.2.1, .int v0.2.2.2.2.2.2.2.2.1, .int v0.2.2.2.2.2.2.2.2.2.1, .int v0.2.2.2.2.2.2.2.2.2.2.1, .int v0.2.2.2.2.2.2.2.2.2.2.2.1, .ref a0.2.2.2.2.2, .int v0.2.2.2.2.2.2.2.2.2.2.2.2.2]))], [(a0.2.1, .inl (cA, v0.1.1, .inl v0.1.2))], [(a0.2.2.1, .inl (cA, v0.2.1.1, .inl v0.2.1.2))], [(a0.2.2.2.1, .inl (cA, v0.2.2.2.2.1.1, .inl v0.2.2.2.2.1.2))], [(a0.2.2.2.2.1, .inl (cA, v0.2.2.2.2.2.2.2.1.1, .inl v0.2.2.2.2.2.2.2.1.2))], [(a0.2.2.2.2.2, .inl (cA, v0.2.2.2.2.2.2.2.2.2.2.2.2.1.1, .inl v0.2.2.2.2.2.2.2.2.2.2.2.2.1.2))]] H locs := hw
  refine lv_aload_n hx hb dX11_thrown_0 rfl (lv_at hl 0 rfl) ?_
  refine k_get (ci := 11) (v := .int v0.2.2.2.1) (C := RX11) (T := TX11) (N := 14) hx hb hts hown hz hw (by decide +kernel) 0 rfl rfl 3 (by decide) (hts (.fieldLink RX11 28 "OccupancyMonitorModel" "thrown" "I") (by decide +kernel)) (fun _ h9 => h9) rfl dX11_thrown_1 ?_
  have hsp := Option.some.inj hsp
  subst hsp
  have hw : ww A s.heap D [w11 cA a0 v0] H locs := hw
  subst hQ
  exact k_iret hx hb hr hlk hw dX11_thrown_4
noncomputable def sX11_in (p1 : Int64) (p2 : Int64) (p3 : Int64) : Option (Int32) := (if (lg_cmp p1 p2) < 0 then (some (0 : Int32)) else (if 0 < (lg_cmp p1 p3) then (some (0 : Int32)) else (some (1 : Int32))))
abbrev rX11_in : Room := { frames := 0, cells := 0, slots := 0, locals := 0 }
set_option maxHeartbeats 4000000 in
set_option maxRecDepth 100000 in
theorem mX11_in (l : Launch) (D : va_G) (cA cR : ClassId) (p1 : Int64) (p2 : Int64) (p3 : Int64) (o : Int32) (hsp : sX11_in p1 p2 p3 = some o) : MI l yX11_in wsX11_in rX11_in D cA cR [.long p1, .long p2, .long p3] [] (some (.int o)) [] 0 0 := by
  have hsp : (if (lg_cmp p1 p2) < 0 then (some (0 : Int32)) else (if 0 < (lg_cmp p1 p3) then (some (0 : Int32)) else (some (1 : Int32)))) = some o := hsp
  refine MI.ofW (cc := cX11_in) (maxL := 6) (ret := (some .boolean)) (by decide) rfl (Nat.le_of_ble_eq_true rfl) ?_
  intro p e s m args below meth c A ls Q H locs hx hb hr hlk hml hown hnm hts hz hA hQ hw hl
  have hl : lv_has ls 6 [(0, .long p1), (2, .long p2), (4, .long p3)] := hl
  have hw : ww A s.heap D [] H locs := hw
  refine lv_lload_n hx hb dX11_in_0 rfl (lv_at hl 0 rfl) ?_
  refine lv_lload_n hx hb dX11_in_1 rfl (lv_at hl 1 rfl) ?_
  refine W.lcmp hx hb dX11_in_2 ?_
  refine lv_if_lt (tgt := 17) hx hb dX11_in_3 (by decide) (fun c1 => ?_) (fun c1 => ?_)
  · have hsp := ift c1 hsp
    refine lv_iconst (v := 0) hx hb dX11_in_17 (by decide) ?_
    have hsp := Option.some.inj hsp
    subst hsp
    have hw : ww A s.heap D [] H locs := hw
    subst hQ
    exact k_zret (v := (0 : Int32)) hx hb hr hlk rfl hw dX11_in_18
  · have hsp := iff_ c1 hsp
    refine lv_lload_n hx hb dX11_in_6 rfl (lv_at hl 0 rfl) ?_
    refine lv_lload hx hb dX11_in_7 (lv_at hl 2 rfl) ?_
    refine W.lcmp hx hb dX11_in_9 ?_
    refine lv_if_gt (tgt := 17) hx hb dX11_in_10 (by decide) (fun c2 => ?_) (fun c2 => ?_)
    · have hsp := ift c2 hsp
      refine lv_iconst (v := 0) hx hb dX11_in_17 (by decide) ?_
      have hsp := Option.some.inj hsp
      subst hsp
      have hw : ww A s.heap D [] H locs := hw
      subst hQ
      exact k_zret (v := (0 : Int32)) hx hb hr hlk rfl hw dX11_in_18
    · have hsp := iff_ c2 hsp
      refine lv_iconst (v := 1) hx hb dX11_in_13 (by decide) ?_
      refine lv_goto (tgt := 18) hx hb dX11_in_14 (by decide) ?_
      have hsp := Option.some.inj hsp
      subst hsp
      have hw : ww A s.heap D [] H locs := hw
      subst hQ
      exact k_zret (v := (1 : Int32)) hx hb hr hlk rfl hw dX11_in_18
noncomputable def sX11_goes (v0 : V11) (p1 : Int32) (p2 : Int32) : Option (Int32 × V11) := (((if p1 = 0 then (some (1 : Int32)) else (if p2 = 0 then (some (2 : Int32)) else (some (0 : Int32)))) : Option (Int32)).bind (fun j3 => (if j3 = 0 then (some ((1 : Int32), (v0.1, v0.2.1, v0.2.2.1, j3, v0.2.2.2.2.1, v0.2.2.2.2.2.1, v0.2.2.2.2.2.2.1, v0.2.2.2.2.2.2.2.1, v0.2.2.2.2.2.2.2.2.1, v0.2.2.2.2.2.2.2.2.2.1, v0.2.2.2.2.2.2.2.2.2.2.1, v0.2.2.2.2.2.2.2.2.2.2.2.1, v0.2.2.2.2.2.2.2.2.2.2.2.2.1, v0.2.2.2.2.2.2.2.2.2.2.2.2.2))) else (some ((0 : Int32), (v0.1, v0.2.1, v0.2.2.1, j3, v0.2.2.2.2.1, v0.2.2.2.2.2.1, v0.2.2.2.2.2.2.1, v0.2.2.2.2.2.2.2.1, v0.2.2.2.2.2.2.2.2.1, v0.2.2.2.2.2.2.2.2.2.1, v0.2.2.2.2.2.2.2.2.2.2.1, v0.2.2.2.2.2.2.2.2.2.2.2.1, v0.2.2.2.2.2.2.2.2.2.2.2.2.1, v0.2.2.2.2.2.2.2.2.2.2.2.2.2))))))
abbrev rX11_goes : Room := { frames := 0, cells := 0, slots := 0, locals := 0 }
set_option maxHeartbeats 4000000 in
set_option maxRecDepth 100000 in
theorem mX11_goes (l : Launch) (D : va_G) (cA cR : ClassId) (a0 : A11) (v0 : V11) (p1 : Int32) (p2 : Int32) (o : Int32 × V11) (hsp : sX11_goes v0 p1 p2 = some o) : MI l yX11_goes wsX11_goes rX11_goes D cA cR [.ref a0.1, .int p1, .int p2] [w11 cA a0 v0] (some (.int o.1)) [w11 cA a0 o.2] 0 0 := by
  have hsp : (((if p1 = 0 then (some (1 : Int32)) else (if p2 = 0 then (some (2 : Int32)) else (some (0 : Int32)))) : Option (Int32)).bind (fun j3 => (if j3 = 0 then (some ((1 : Int32), (v0.1, v0.2.1, v0.2.2.1, j3, v0.2.2.2.2.1, v0.2.2.2.2.2.1, v0.2.2.2.2.2.2.1, v0.2.2.2.2.2.2.2.1, v0.2.2.2.2.2.2.2.2.1, v0.2.2.2.2.2.2.2.2.2.1, v0.2.2.2.2.2.2.2.2.2.2.1, v0.2.2.2.2.2.2.2.2.2.2.2.1, v0.2.2.2.2.2.2.2.2.2.2.2.2.1, v0.2.2.2.2.2.2.2.2.2.2.2.2.2))) else (some ((0 : Int32), (v0.1, v0.2.1, v0.2.2.1, j3, v0.2.2.2.2.1, v0.2.2.2.2.2.1, v0.2.2.2.2.2.2.1, v0.2.2.2.2.2.2.2.1, v0.2.2.2.2.2.2.2.2.1, v0.2.2.2.2.2.2.2.2.2.1, v0.2.2.2.2.2.2.2.2.2.2.1, v0.2.2.2.2.2.2.2.2.2.2.2.1, v0.2.2.2.2.2.2.2.2.2.2.2.2.1, v0.2.2.2.2.2.2.2.2.2.2.2.2.2)))))) = some o := hsp
  refine MI.ofW (cc := cX11_goes) (maxL := 3) (ret := (some .boolean)) (by decide) rfl (Nat.le_of_ble_eq_true rfl) ?_
  intro p e s m args below meth c A ls Q H locs hx hb hr hlk hml hown hnm hts hz hA hQ hw hl
  have hl : lv_has ls 3 [(0, .ref a0.1), (1, .int p1), (2, .int p2)] := hl
  have hw : ww A s.heap D [[(a0.1, .inr (11, [.ref a0.2.1, .ref a0.2.2.1, .int v0.2.2.1, .int v0.2.2.2.1, .ref a0.2.2.2.1, .int v0.2.2.2.2.2.1, .int v0.2.2.2.2.2.2.1, .ref a0.2.2.2.2.1, .int v0.2.2.2.2.2.2.2.2.1, .int v0.2.2.2.2.2.2.2.2.2.1, .int v0.2.2.2.2.2.2.2.2.2.2.1, .int v0.2.2.2.2.2.2.2.2.2.2.2.1, .ref a0.2.2.2.2.2, .int v0.2.2.2.2.2.2.2.2.2.2.2.2.2]))], [(a0.2.1, .inl (cA, v0.1.1, .inl v0.1.2))], [(a0.2.2.1, .inl (cA, v0.2.1.1, .inl v0.2.1.2))], [(a0.2.2.2.1, .inl (cA, v0.2.2.2.2.1.1, .inl v0.2.2.2.2.1.2))], [(a0.2.2.2.2.1, .inl (cA, v0.2.2.2.2.2.2.2.1.1, .inl v0.2.2.2.2.2.2.2.1.2))], [(a0.2.2.2.2.2, .inl (cA, v0.2.2.2.2.2.2.2.2.2.2.2.2.1.1, .inl v0.2.2.2.2.2.2.2.2.2.2.2.2.1.2))]] H locs := hw
  refine lv_aload_n hx hb dX11_goes_0 rfl (lv_at hl 0 rfl) ?_
  refine lv_iload_n hx hb dX11_goes_1 rfl (lv_at hl 1 rfl) ?_
  obtain ⟨j3, hsj3, hkj3⟩ := bnd_of hsp
  have Jj3 : ∀ (H : Heap) (locs : List Loc) (ls : Array Slot), ww A s.heap D [[(a0.1, .inr (11, [.ref a0.2.1, .ref a0.2.2.1, .int v0.2.2.1, .int v0.2.2.2.1, .ref a0.2.2.2.1, .int v0.2.2.2.2.2.1, .int v0.2.2.2.2.2.2.1, .ref a0.2.2.2.2.1, .int v0.2.2.2.2.2.2.2.2.1, .int v0.2.2.2.2.2.2.2.2.2.1, .int v0.2.2.2.2.2.2.2.2.2.2.1, .int v0.2.2.2.2.2.2.2.2.2.2.2.1, .ref a0.2.2.2.2.2, .int v0.2.2.2.2.2.2.2.2.2.2.2.2.2]))], [(a0.2.1, .inl (cA, v0.1.1, .inl v0.1.2))], [(a0.2.2.1, .inl (cA, v0.2.1.1, .inl v0.2.1.2))], [(a0.2.2.2.1, .inl (cA, v0.2.2.2.2.1.1, .inl v0.2.2.2.2.1.2))], [(a0.2.2.2.2.1, .inl (cA, v0.2.2.2.2.2.2.2.1.1, .inl v0.2.2.2.2.2.2.2.1.2))], [(a0.2.2.2.2.2, .inl (cA, v0.2.2.2.2.2.2.2.2.2.2.2.2.1.1, .inl v0.2.2.2.2.2.2.2.2.2.2.2.2.1.2))]] H locs → lv_has ls 3 [(0, .ref a0.1), (1, .int p1), (2, .int p2)] → W p l e rX11_goes s m args below meth c H locs 0 0 Q (F0 m 18 ls [.int j3, .ref a0.1]) := by
    intro H locs ls hw hl
    have hsp := hkj3
    refine k_put (ci := 11) (v := .int j3) (ty := .int) (C := RX11) (T := TX11) (N := 14) (bs1 := [[(a0.1, .inr (11, [.ref a0.2.1, .ref a0.2.2.1, .int v0.2.2.1, .int j3, .ref a0.2.2.2.1, .int v0.2.2.2.2.2.1, .int v0.2.2.2.2.2.2.1, .ref a0.2.2.2.2.1, .int v0.2.2.2.2.2.2.2.2.1, .int v0.2.2.2.2.2.2.2.2.2.1, .int v0.2.2.2.2.2.2.2.2.2.2.1, .int v0.2.2.2.2.2.2.2.2.2.2.2.1, .ref a0.2.2.2.2.2, .int v0.2.2.2.2.2.2.2.2.2.2.2.2.2]))], [(a0.2.1, .inl (cA, v0.1.1, .inl v0.1.2))], [(a0.2.2.1, .inl (cA, v0.2.1.1, .inl v0.2.1.2))], [(a0.2.2.2.1, .inl (cA, v0.2.2.2.2.1.1, .inl v0.2.2.2.2.1.2))], [(a0.2.2.2.2.1, .inl (cA, v0.2.2.2.2.2.2.2.1.1, .inl v0.2.2.2.2.2.2.2.1.2))], [(a0.2.2.2.2.2, .inl (cA, v0.2.2.2.2.2.2.2.2.2.2.2.2.1.1, .inl v0.2.2.2.2.2.2.2.2.2.2.2.2.1.2))]]) hx hb hts hown hz hw (by decide +kernel) tyX11 tyX11_ok nmX11 0 rfl rfl 3 (by decide) (hts (.fieldLink RX11 28 "OccupancyMonitorModel" "thrown" "I") (by decide +kernel)) (fun _ h9 => h9) rfl (by decide +kernel) rfl rfl (Nat.le_of_ble_eq_true rfl) dX11_goes_18 rfl (fun H locs hw => ?_)
    refine lv_aload_n hx hb dX11_goes_21 rfl (lv_at hl 0 rfl) ?_
    refine k_get (ci := 11) (v := .int j3) (C := RX11) (T := TX11) (N := 14) hx hb hts hown hz hw (by decide +kernel) 0 rfl rfl 3 (by decide) (hts (.fieldLink RX11 28 "OccupancyMonitorModel" "thrown" "I") (by decide +kernel)) (fun _ h9 => h9) rfl dX11_goes_22 ?_
    refine lv_if_ne (tgt := 32) hx hb dX11_goes_25 (by decide) (fun c4 => ?_) (fun c4 => ?_)
    · have hsp := iff_ c4 hsp
      refine lv_iconst (v := 0) hx hb dX11_goes_32 (by decide) ?_
      have hsp := Option.some.inj hsp
      subst hsp
      have hw : ww A s.heap D [w11 cA a0 (v0.1, v0.2.1, v0.2.2.1, j3, v0.2.2.2.2.1, v0.2.2.2.2.2.1, v0.2.2.2.2.2.2.1, v0.2.2.2.2.2.2.2.1, v0.2.2.2.2.2.2.2.2.1, v0.2.2.2.2.2.2.2.2.2.1, v0.2.2.2.2.2.2.2.2.2.2.1, v0.2.2.2.2.2.2.2.2.2.2.2.1, v0.2.2.2.2.2.2.2.2.2.2.2.2.1, v0.2.2.2.2.2.2.2.2.2.2.2.2.2)] H locs := hw
      subst hQ
      exact k_zret (v := (0 : Int32)) hx hb hr hlk rfl hw dX11_goes_33
    · have hsp := ift c4 hsp
      refine lv_iconst (v := 1) hx hb dX11_goes_28 (by decide) ?_
      refine lv_goto (tgt := 33) hx hb dX11_goes_29 (by decide) ?_
      have hsp := Option.some.inj hsp
      subst hsp
      have hw : ww A s.heap D [w11 cA a0 (v0.1, v0.2.1, v0.2.2.1, j3, v0.2.2.2.2.1, v0.2.2.2.2.2.1, v0.2.2.2.2.2.2.1, v0.2.2.2.2.2.2.2.1, v0.2.2.2.2.2.2.2.2.1, v0.2.2.2.2.2.2.2.2.2.1, v0.2.2.2.2.2.2.2.2.2.2.1, v0.2.2.2.2.2.2.2.2.2.2.2.1, v0.2.2.2.2.2.2.2.2.2.2.2.2.1, v0.2.2.2.2.2.2.2.2.2.2.2.2.2)] H locs := hw
      subst hQ
      exact k_zret (v := (1 : Int32)) hx hb hr hlk rfl hw dX11_goes_33
  have hsp := hsj3
  refine lv_if_ne (tgt := 9) hx hb dX11_goes_2 (by decide) (fun c5 => ?_) (fun c5 => ?_)
  · have hsp := iff_ c5 hsp
    refine lv_iload_n hx hb dX11_goes_9 rfl (lv_at hl 2 rfl) ?_
    refine lv_if_ne (tgt := 17) hx hb dX11_goes_10 (by decide) (fun c6 => ?_) (fun c6 => ?_)
    · have hsp := iff_ c6 hsp
      refine lv_iconst (v := 0) hx hb dX11_goes_17 (by decide) ?_
      have hsp := Option.some.inj hsp
      subst hsp
      exact Jj3 _ _ _ hw (lv_sub hl [0, 1, 2] rfl)
    · have hsp := ift c6 hsp
      refine lv_iconst (v := 2) hx hb dX11_goes_13 (by decide) ?_
      refine lv_goto (tgt := 18) hx hb dX11_goes_14 (by decide) ?_
      have hsp := Option.some.inj hsp
      subst hsp
      exact Jj3 _ _ _ hw (lv_sub hl [0, 1, 2] rfl)
  · have hsp := ift c5 hsp
    refine lv_iconst (v := 1) hx hb dX11_goes_5 (by decide) ?_
    refine lv_goto (tgt := 18) hx hb dX11_goes_6 (by decide) ?_
    have hsp := Option.some.inj hsp
    subst hsp
    exact Jj3 _ _ _ hw (lv_sub hl [0, 1, 2] rfl)
noncomputable def qX11_save_51 (v0 : V11) (j15 : (Nat → Int32) × Int32) : Nat → Int32 → (Nat → Int32) → Option (Int32 × (Nat → Int32))
  | 0, _, _ => none
  | n51 + 1, z51_0, z51_1 => (if (804 : Int32) ≤ z51_0 then (some (z51_0, z51_1)) else (grd (vp_in z51_0 v0.1.1) (grd (vp_in (((804 : Int32) * j15.2) + z51_0) v0.2.1.1) (lt_ (upd z51_1 (((804 : Int32) * j15.2) + z51_0).toNatClampNeg (v0.1.2 z51_0.toNatClampNeg)) (fun f28 => (qX11_save_51 v0 j15 n51 (z51_0 + 1) f28))))))
noncomputable def qX11_save_10 (v0 : V11) : Nat → Int32 → (Nat → Int32) → Option (Int32 × (Nat → Int32))
  | 0, _, _ => none
  | n10 + 1, z10_0, z10_1 => (if (2412 : Int32) ≤ z10_0 then (some (z10_0, z10_1)) else (grd (vp_in (z10_0 + (804 : Int32)) v0.2.1.1) (grd (vp_in z10_0 v0.2.1.1) (lt_ (upd z10_1 z10_0.toNatClampNeg (z10_1 (z10_0 + (804 : Int32)).toNatClampNeg)) (fun f42 => (qX11_save_10 v0 n10 (z10_0 + 1) f42))))))
noncomputable def sX11_save (N : Nat) (v0 : V11) : Option (V11) := (((if v0.2.2.1 = (4 : Int32) then ((qX11_save_10 v0 N (0 : Int32) v0.2.1.2).bind (fun o38 => (some (o38.2, (v0.2.2.1 - (1 : Int32)))))) else (some (v0.2.1.2, v0.2.2.1))) : Option ((Nat → Int32) × Int32)).bind (fun j15 => ((qX11_save_51 v0 j15 N (0 : Int32) j15.1).bind (fun o24 => (some (v0.1, (v0.2.1.1, o24.2), (j15.2 + (1 : Int32)), v0.2.2.2.1, v0.2.2.2.2.1, v0.2.2.2.2.2.1, v0.2.2.2.2.2.2.1, v0.2.2.2.2.2.2.2.1, v0.2.2.2.2.2.2.2.2.1, v0.2.2.2.2.2.2.2.2.2.1, v0.2.2.2.2.2.2.2.2.2.2.1, v0.2.2.2.2.2.2.2.2.2.2.2.1, v0.2.2.2.2.2.2.2.2.2.2.2.2.1, v0.2.2.2.2.2.2.2.2.2.2.2.2.2))))))
abbrev rX11_save : Room := { frames := 0, cells := 0, slots := 0, locals := 0 }
set_option maxHeartbeats 4000000 in
set_option maxRecDepth 100000 in
theorem mX11_save (l : Launch) (D : va_G) (cA cR : ClassId) (N : Nat) (a0 : A11) (v0 : V11) (o : V11) (hsp : sX11_save N v0 = some o) : MI l yX11_save wsX11_save rX11_save D cA cR [.ref a0.1] [w11 cA a0 v0] none [w11 cA a0 o] 0 0 := by
  have hsp : (((if v0.2.2.1 = (4 : Int32) then ((qX11_save_10 v0 N (0 : Int32) v0.2.1.2).bind (fun o38 => (some (o38.2, (v0.2.2.1 - (1 : Int32)))))) else (some (v0.2.1.2, v0.2.2.1))) : Option ((Nat → Int32) × Int32)).bind (fun j15 => ((qX11_save_51 v0 j15 N (0 : Int32) j15.1).bind (fun o24 => (some (v0.1, (v0.2.1.1, o24.2), (j15.2 + (1 : Int32)), v0.2.2.2.1, v0.2.2.2.2.1, v0.2.2.2.2.2.1, v0.2.2.2.2.2.2.1, v0.2.2.2.2.2.2.2.1, v0.2.2.2.2.2.2.2.2.1, v0.2.2.2.2.2.2.2.2.2.1, v0.2.2.2.2.2.2.2.2.2.2.1, v0.2.2.2.2.2.2.2.2.2.2.2.1, v0.2.2.2.2.2.2.2.2.2.2.2.2.1, v0.2.2.2.2.2.2.2.2.2.2.2.2.2)))))) = some o := hsp
  refine MI.ofW (cc := cX11_save) (maxL := 2) (ret := none) (by decide) rfl (Nat.le_of_ble_eq_true rfl) ?_
  intro p e s m args below meth c A ls Q H locs hx hb hr hlk hml hown hnm hts hz hA hQ hw hl
  have hl : lv_has ls 2 [(0, .ref a0.1)] := hl
  have hw : ww A s.heap D [[(a0.1, .inr (11, [.ref a0.2.1, .ref a0.2.2.1, .int v0.2.2.1, .int v0.2.2.2.1, .ref a0.2.2.2.1, .int v0.2.2.2.2.2.1, .int v0.2.2.2.2.2.2.1, .ref a0.2.2.2.2.1, .int v0.2.2.2.2.2.2.2.2.1, .int v0.2.2.2.2.2.2.2.2.2.1, .int v0.2.2.2.2.2.2.2.2.2.2.1, .int v0.2.2.2.2.2.2.2.2.2.2.2.1, .ref a0.2.2.2.2.2, .int v0.2.2.2.2.2.2.2.2.2.2.2.2.2]))], [(a0.2.1, .inl (cA, v0.1.1, .inl v0.1.2))], [(a0.2.2.1, .inl (cA, v0.2.1.1, .inl v0.2.1.2))], [(a0.2.2.2.1, .inl (cA, v0.2.2.2.2.1.1, .inl v0.2.2.2.2.1.2))], [(a0.2.2.2.2.1, .inl (cA, v0.2.2.2.2.2.2.2.1.1, .inl v0.2.2.2.2.2.2.2.1.2))], [(a0.2.2.2.2.2, .inl (cA, v0.2.2.2.2.2.2.2.2.2.2.2.2.1.1, .inl v0.2.2.2.2.2.2.2.2.2.2.2.2.1.2))]] H locs := hw
  refine lv_aload_n hx hb dX11_save_0 rfl (lv_at hl 0 rfl) ?_
  refine k_get (ci := 11) (v := .int v0.2.2.1) (C := RX11) (T := TX11) (N := 14) hx hb hts hown hz hw (by decide +kernel) 0 rfl rfl 2 (by decide) (hts (.fieldLink RX11 32 "OccupancyMonitorModel" "savedMany" "I") (by decide +kernel)) (fun _ h9 => h9) rfl dX11_save_1 ?_
  refine lv_iconst (v := 4) hx hb dX11_save_4 (by decide) ?_
  obtain ⟨j15, hsj15, hkj15⟩ := bnd_of hsp
  have Jj15 : ∀ (H : Heap) (locs : List Loc) (ls : Array Slot), ww A s.heap D [[(a0.1, .inr (11, [.ref a0.2.1, .ref a0.2.2.1, .int j15.2, .int v0.2.2.2.1, .ref a0.2.2.2.1, .int v0.2.2.2.2.2.1, .int v0.2.2.2.2.2.2.1, .ref a0.2.2.2.2.1, .int v0.2.2.2.2.2.2.2.2.1, .int v0.2.2.2.2.2.2.2.2.2.1, .int v0.2.2.2.2.2.2.2.2.2.2.1, .int v0.2.2.2.2.2.2.2.2.2.2.2.1, .ref a0.2.2.2.2.2, .int v0.2.2.2.2.2.2.2.2.2.2.2.2.2]))], [(a0.2.1, .inl (cA, v0.1.1, .inl v0.1.2))], [(a0.2.2.1, .inl (cA, v0.2.1.1, .inl j15.1))], [(a0.2.2.2.1, .inl (cA, v0.2.2.2.2.1.1, .inl v0.2.2.2.2.1.2))], [(a0.2.2.2.2.1, .inl (cA, v0.2.2.2.2.2.2.2.1.1, .inl v0.2.2.2.2.2.2.2.1.2))], [(a0.2.2.2.2.2, .inl (cA, v0.2.2.2.2.2.2.2.2.2.2.2.2.1.1, .inl v0.2.2.2.2.2.2.2.2.2.2.2.2.1.2))]] H locs → lv_has ls 2 [(0, .ref a0.1)] → W p l e rX11_save s m args below meth c H locs 0 0 Q (F0 m 49 ls []) := by
    intro H locs ls hw hl
    have hsp := hkj15
    refine lv_iconst (v := 0) hx hb dX11_save_49 (by decide) ?_
    refine lv_istore_n (lv' := [(1, .int (0 : Int32)), (0, .ref a0.1)]) hx hb dX11_save_50 rfl hl (by decide) rfl (fun ls hl => ?_)
    have L51 : ∀ (n51 : Nat) (z51_0 : Int32) (z51_1 : (Nat → Int32)) (o24 : Int32 × (Nat → Int32)), qX11_save_51 v0 j15 n51 z51_0 z51_1 = some o24 → ∀ (H : Heap) (locs : List Loc) (ls : Array Slot), ww A s.heap D [[(a0.1, .inr (11, [.ref a0.2.1, .ref a0.2.2.1, .int j15.2, .int v0.2.2.2.1, .ref a0.2.2.2.1, .int v0.2.2.2.2.2.1, .int v0.2.2.2.2.2.2.1, .ref a0.2.2.2.2.1, .int v0.2.2.2.2.2.2.2.2.1, .int v0.2.2.2.2.2.2.2.2.2.1, .int v0.2.2.2.2.2.2.2.2.2.2.1, .int v0.2.2.2.2.2.2.2.2.2.2.2.1, .ref a0.2.2.2.2.2, .int v0.2.2.2.2.2.2.2.2.2.2.2.2.2]))], [(a0.2.1, .inl (cA, v0.1.1, .inl v0.1.2))], [(a0.2.2.1, .inl (cA, v0.2.1.1, .inl z51_1))], [(a0.2.2.2.1, .inl (cA, v0.2.2.2.2.1.1, .inl v0.2.2.2.2.1.2))], [(a0.2.2.2.2.1, .inl (cA, v0.2.2.2.2.2.2.2.1.1, .inl v0.2.2.2.2.2.2.2.1.2))], [(a0.2.2.2.2.2, .inl (cA, v0.2.2.2.2.2.2.2.2.2.2.2.2.1.1, .inl v0.2.2.2.2.2.2.2.2.2.2.2.2.1.2))]] H locs → lv_has ls 2 [(0, .ref a0.1), (1, .int z51_0)] → (∀ (y85 : Int32 × (Nat → Int32)), o24 = y85 → ∀ (H : Heap) (locs : List Loc) (ls : Array Slot), ww A s.heap D [[(a0.1, .inr (11, [.ref a0.2.1, .ref a0.2.2.1, .int j15.2, .int v0.2.2.2.1, .ref a0.2.2.2.1, .int v0.2.2.2.2.2.1, .int v0.2.2.2.2.2.2.1, .ref a0.2.2.2.2.1, .int v0.2.2.2.2.2.2.2.2.1, .int v0.2.2.2.2.2.2.2.2.2.1, .int v0.2.2.2.2.2.2.2.2.2.2.1, .int v0.2.2.2.2.2.2.2.2.2.2.2.1, .ref a0.2.2.2.2.2, .int v0.2.2.2.2.2.2.2.2.2.2.2.2.2]))], [(a0.2.1, .inl (cA, v0.1.1, .inl v0.1.2))], [(a0.2.2.1, .inl (cA, v0.2.1.1, .inl y85.2))], [(a0.2.2.2.1, .inl (cA, v0.2.2.2.2.1.1, .inl v0.2.2.2.2.1.2))], [(a0.2.2.2.2.1, .inl (cA, v0.2.2.2.2.2.2.2.1.1, .inl v0.2.2.2.2.2.2.2.1.2))], [(a0.2.2.2.2.2, .inl (cA, v0.2.2.2.2.2.2.2.2.2.2.2.2.1.1, .inl v0.2.2.2.2.2.2.2.2.2.2.2.2.1.2))]] H locs → lv_has ls 2 [(0, .ref a0.1), (1, .int y85.1)] → W p l e rX11_save s m args below meth c H locs 0 0 Q (F0 m 85 ls [])) → W p l e rX11_save s m args below meth c H locs 0 0 Q (F0 m 51 ls []) := by
      intro n51
      induction n51 with
      | zero => intro z51_0 z51_1 o24 hsp; cases hsp
      | succ n51 ih51 =>
        intro z51_0 z51_1 o24 hsp H locs ls hw hl kx51_85
        have hsp : (if (804 : Int32) ≤ z51_0 then (some (z51_0, z51_1)) else (grd (vp_in z51_0 v0.1.1) (grd (vp_in (((804 : Int32) * j15.2) + z51_0) v0.2.1.1) (lt_ (upd z51_1 (((804 : Int32) * j15.2) + z51_0).toNatClampNeg (v0.1.2 z51_0.toNatClampNeg)) (fun f28 => (qX11_save_51 v0 j15 n51 (z51_0 + 1) f28)))))) = some o24 := hsp
        refine lv_iload_n hx hb dX11_save_51 rfl (lv_at hl 1 rfl) ?_
        refine lv_sipush (v := 804) hx hb dX11_save_52 (by decide) ?_
        refine lv_icmp_ge (tgt := 85) hx hb dX11_save_55 (by decide) (fun c25 => ?_) (fun c25 => ?_)
        · have hsp := ift c25 hsp
          have hsp := Option.some.inj hsp
          subst hsp
          exact kx51_85 _ rfl _ _ _ hw (lv_sub hl [0, 1] rfl)
        · have hsp := iff_ c25 hsp
          refine lv_aload_n hx hb dX11_save_58 rfl (lv_at hl 0 rfl) ?_
          refine k_get (ci := 11) (v := .ref a0.2.2.1) (C := RX11) (T := TX11) (N := 14) hx hb hts hown hz hw (by decide +kernel) 0 rfl rfl 1 (by decide) (hts (.fieldLink RX11 13 "OccupancyMonitorModel" "saved" "[I") (by decide +kernel)) (fun _ h9 => h9) rfl dX11_save_59 ?_
          refine lv_sipush (v := 804) hx hb dX11_save_62 (by decide) ?_
          refine lv_aload_n hx hb dX11_save_65 rfl (lv_at hl 0 rfl) ?_
          refine k_get (ci := 11) (v := .int j15.2) (C := RX11) (T := TX11) (N := 14) hx hb hts hown hz hw (by decide +kernel) 0 rfl rfl 2 (by decide) (hts (.fieldLink RX11 32 "OccupancyMonitorModel" "savedMany" "I") (by decide +kernel)) (fun _ h9 => h9) rfl dX11_save_66 ?_
          refine lv_imul hx hb dX11_save_69 ?_
          refine lv_iload_n hx hb dX11_save_70 rfl (lv_at hl 1 rfl) ?_
          refine lv_iadd hx hb dX11_save_71 ?_
          refine lv_aload_n hx hb dX11_save_72 rfl (lv_at hl 0 rfl) ?_
          refine k_get (ci := 11) (v := .ref a0.2.1) (C := RX11) (T := TX11) (N := 14) hx hb hts hown hz hw (by decide +kernel) 0 rfl rfl 0 (by decide) (hts (.fieldLink RX11 7 "OccupancyMonitorModel" "all" "[I") (by decide +kernel)) (fun _ h9 => h9) rfl dX11_save_73 ?_
          refine lv_iload_n hx hb dX11_save_76 rfl (lv_at hl 1 rfl) ?_
          obtain ⟨g26, hsp⟩ := grd_of hsp
          refine k_iald hx hb hz hw 1 rfl g26 dX11_save_77 ?_
          obtain ⟨g27, hsp⟩ := grd_of hsp
          obtain ⟨f28, ef28⟩ : ∃ u : Nat → Int32, u = (upd z51_1 (((804 : Int32) * j15.2) + z51_0).toNatClampNeg (v0.1.2 z51_0.toNatClampNeg)) := ⟨_, rfl⟩
          have hsp := lt_of hsp ef28
          refine k_iast (bs1 := [[(a0.1, .inr (11, [.ref a0.2.1, .ref a0.2.2.1, .int j15.2, .int v0.2.2.2.1, .ref a0.2.2.2.1, .int v0.2.2.2.2.2.1, .int v0.2.2.2.2.2.2.1, .ref a0.2.2.2.2.1, .int v0.2.2.2.2.2.2.2.2.1, .int v0.2.2.2.2.2.2.2.2.2.1, .int v0.2.2.2.2.2.2.2.2.2.2.1, .int v0.2.2.2.2.2.2.2.2.2.2.2.1, .ref a0.2.2.2.2.2, .int v0.2.2.2.2.2.2.2.2.2.2.2.2.2]))], [(a0.2.1, .inl (cA, v0.1.1, .inl v0.1.2))], [(a0.2.2.1, .inl (cA, v0.2.1.1, .inl f28))], [(a0.2.2.2.1, .inl (cA, v0.2.2.2.2.1.1, .inl v0.2.2.2.2.1.2))], [(a0.2.2.2.2.1, .inl (cA, v0.2.2.2.2.2.2.2.1.1, .inl v0.2.2.2.2.2.2.2.1.2))], [(a0.2.2.2.2.2, .inl (cA, v0.2.2.2.2.2.2.2.2.2.2.2.2.1.1, .inl v0.2.2.2.2.2.2.2.2.2.2.2.2.1.2))]]) hx hb hz hw 2 rfl g27 dX11_save_78 (by rw [ef28]; rfl) (fun H locs hw => ?_)
          refine lv_iinc (v := (z51_0 + 1)) (lv' := [(1, .int (z51_0 + 1)), (0, .ref a0.1)]) hx hb dX11_save_79 hl (k := 1) rfl rfl (by decide) rfl (fun ls hl => ?_)
          refine lv_goto (tgt := 51) hx hb dX11_save_82 (by decide) ?_
          exact ih51 (z51_0 + 1) f28 _ hsp _ _ _ hw (lv_sub hl [1, 0] rfl) kx51_85
    obtain ⟨o24, hso24, hsp⟩ := bnd_of hsp
    refine L51 N (0 : Int32) j15.1 _ hso24 _ _ _ hw (lv_sub hl [1, 0] rfl) (fun y85 hy85 H locs ls hw hl => ?_)
    cases hy85
    refine lv_aload_n hx hb dX11_save_85 rfl (lv_at hl 0 rfl) ?_
    refine lv_dup hx hb dX11_save_86 rfl ?_
    refine k_get (ci := 11) (v := .int j15.2) (C := RX11) (T := TX11) (N := 14) hx hb hts hown hz hw (by decide +kernel) 0 rfl rfl 2 (by decide) (hts (.fieldLink RX11 32 "OccupancyMonitorModel" "savedMany" "I") (by decide +kernel)) (fun _ h9 => h9) rfl dX11_save_87 ?_
    refine lv_iconst (v := 1) hx hb dX11_save_90 (by decide) ?_
    refine lv_iadd hx hb dX11_save_91 ?_
    refine k_put (ci := 11) (v := .int (j15.2 + (1 : Int32))) (ty := .int) (C := RX11) (T := TX11) (N := 14) (bs1 := [[(a0.1, .inr (11, [.ref a0.2.1, .ref a0.2.2.1, .int (j15.2 + (1 : Int32)), .int v0.2.2.2.1, .ref a0.2.2.2.1, .int v0.2.2.2.2.2.1, .int v0.2.2.2.2.2.2.1, .ref a0.2.2.2.2.1, .int v0.2.2.2.2.2.2.2.2.1, .int v0.2.2.2.2.2.2.2.2.2.1, .int v0.2.2.2.2.2.2.2.2.2.2.1, .int v0.2.2.2.2.2.2.2.2.2.2.2.1, .ref a0.2.2.2.2.2, .int v0.2.2.2.2.2.2.2.2.2.2.2.2.2]))], [(a0.2.1, .inl (cA, v0.1.1, .inl v0.1.2))], [(a0.2.2.1, .inl (cA, v0.2.1.1, .inl o24.2))], [(a0.2.2.2.1, .inl (cA, v0.2.2.2.2.1.1, .inl v0.2.2.2.2.1.2))], [(a0.2.2.2.2.1, .inl (cA, v0.2.2.2.2.2.2.2.1.1, .inl v0.2.2.2.2.2.2.2.1.2))], [(a0.2.2.2.2.2, .inl (cA, v0.2.2.2.2.2.2.2.2.2.2.2.2.1.1, .inl v0.2.2.2.2.2.2.2.2.2.2.2.2.1.2))]]) hx hb hts hown hz hw (by decide +kernel) tyX11 tyX11_ok nmX11 0 rfl rfl 2 (by decide) (hts (.fieldLink RX11 32 "OccupancyMonitorModel" "savedMany" "I") (by decide +kernel)) (fun _ h9 => h9) rfl (by decide +kernel) rfl rfl (Nat.le_of_ble_eq_true rfl) dX11_save_92 rfl (fun H locs hw => ?_)
    have hsp := Option.some.inj hsp
    subst hsp
    have hw : ww A s.heap D [w11 cA a0 (v0.1, (v0.2.1.1, o24.2), (j15.2 + (1 : Int32)), v0.2.2.2.1, v0.2.2.2.2.1, v0.2.2.2.2.2.1, v0.2.2.2.2.2.2.1, v0.2.2.2.2.2.2.2.1, v0.2.2.2.2.2.2.2.2.1, v0.2.2.2.2.2.2.2.2.2.1, v0.2.2.2.2.2.2.2.2.2.2.1, v0.2.2.2.2.2.2.2.2.2.2.2.1, v0.2.2.2.2.2.2.2.2.2.2.2.2.1, v0.2.2.2.2.2.2.2.2.2.2.2.2.2)] H locs := hw
    subst hQ
    exact k_vret hx hb hr hlk hw dX11_save_95
  have hsp := hsj15
  refine lv_icmp_ne (tgt := 49) hx hb dX11_save_5 (by decide) (fun c29 => ?_) (fun c29 => ?_)
  · have hsp := iff_ c29 hsp
    have hsp := Option.some.inj hsp
    subst hsp
    exact Jj15 _ _ _ hw (lv_sub hl [0] rfl)
  · have hsp := ift c29 hsp
    refine lv_iconst (v := 0) hx hb dX11_save_8 (by decide) ?_
    refine lv_istore_n (lv' := [(1, .int (0 : Int32)), (0, .ref a0.1)]) hx hb dX11_save_9 rfl hl (by decide) rfl (fun ls hl => ?_)
    have L10 : ∀ (n10 : Nat) (z10_0 : Int32) (z10_1 : (Nat → Int32)) (o38 : Int32 × (Nat → Int32)), qX11_save_10 v0 n10 z10_0 z10_1 = some o38 → ∀ (H : Heap) (locs : List Loc) (ls : Array Slot), ww A s.heap D [[(a0.1, .inr (11, [.ref a0.2.1, .ref a0.2.2.1, .int v0.2.2.1, .int v0.2.2.2.1, .ref a0.2.2.2.1, .int v0.2.2.2.2.2.1, .int v0.2.2.2.2.2.2.1, .ref a0.2.2.2.2.1, .int v0.2.2.2.2.2.2.2.2.1, .int v0.2.2.2.2.2.2.2.2.2.1, .int v0.2.2.2.2.2.2.2.2.2.2.1, .int v0.2.2.2.2.2.2.2.2.2.2.2.1, .ref a0.2.2.2.2.2, .int v0.2.2.2.2.2.2.2.2.2.2.2.2.2]))], [(a0.2.1, .inl (cA, v0.1.1, .inl v0.1.2))], [(a0.2.2.1, .inl (cA, v0.2.1.1, .inl z10_1))], [(a0.2.2.2.1, .inl (cA, v0.2.2.2.2.1.1, .inl v0.2.2.2.2.1.2))], [(a0.2.2.2.2.1, .inl (cA, v0.2.2.2.2.2.2.2.1.1, .inl v0.2.2.2.2.2.2.2.1.2))], [(a0.2.2.2.2.2, .inl (cA, v0.2.2.2.2.2.2.2.2.2.2.2.2.1.1, .inl v0.2.2.2.2.2.2.2.2.2.2.2.2.1.2))]] H locs → lv_has ls 2 [(0, .ref a0.1), (1, .int z10_0)] → (∀ (y39 : Int32 × (Nat → Int32)), o38 = y39 → ∀ (H : Heap) (locs : List Loc) (ls : Array Slot), ww A s.heap D [[(a0.1, .inr (11, [.ref a0.2.1, .ref a0.2.2.1, .int v0.2.2.1, .int v0.2.2.2.1, .ref a0.2.2.2.1, .int v0.2.2.2.2.2.1, .int v0.2.2.2.2.2.2.1, .ref a0.2.2.2.2.1, .int v0.2.2.2.2.2.2.2.2.1, .int v0.2.2.2.2.2.2.2.2.2.1, .int v0.2.2.2.2.2.2.2.2.2.2.1, .int v0.2.2.2.2.2.2.2.2.2.2.2.1, .ref a0.2.2.2.2.2, .int v0.2.2.2.2.2.2.2.2.2.2.2.2.2]))], [(a0.2.1, .inl (cA, v0.1.1, .inl v0.1.2))], [(a0.2.2.1, .inl (cA, v0.2.1.1, .inl y39.2))], [(a0.2.2.2.1, .inl (cA, v0.2.2.2.2.1.1, .inl v0.2.2.2.2.1.2))], [(a0.2.2.2.2.1, .inl (cA, v0.2.2.2.2.2.2.2.1.1, .inl v0.2.2.2.2.2.2.2.1.2))], [(a0.2.2.2.2.2, .inl (cA, v0.2.2.2.2.2.2.2.2.2.2.2.2.1.1, .inl v0.2.2.2.2.2.2.2.2.2.2.2.2.1.2))]] H locs → lv_has ls 2 [(0, .ref a0.1), (1, .int y39.1)] → W p l e rX11_save s m args below meth c H locs 0 0 Q (F0 m 39 ls [])) → W p l e rX11_save s m args below meth c H locs 0 0 Q (F0 m 10 ls []) := by
      intro n10
      induction n10 with
      | zero => intro z10_0 z10_1 o38 hsp; cases hsp
      | succ n10 ih10 =>
        intro z10_0 z10_1 o38 hsp H locs ls hw hl kx10_39
        have hsp : (if (2412 : Int32) ≤ z10_0 then (some (z10_0, z10_1)) else (grd (vp_in (z10_0 + (804 : Int32)) v0.2.1.1) (grd (vp_in z10_0 v0.2.1.1) (lt_ (upd z10_1 z10_0.toNatClampNeg (z10_1 (z10_0 + (804 : Int32)).toNatClampNeg)) (fun f42 => (qX11_save_10 v0 n10 (z10_0 + 1) f42)))))) = some o38 := hsp
        refine lv_iload_n hx hb dX11_save_10 rfl (lv_at hl 1 rfl) ?_
        refine lv_sipush (v := 2412) hx hb dX11_save_11 (by decide) ?_
        refine lv_icmp_ge (tgt := 39) hx hb dX11_save_14 (by decide) (fun c39 => ?_) (fun c39 => ?_)
        · have hsp := ift c39 hsp
          have hsp := Option.some.inj hsp
          subst hsp
          exact kx10_39 _ rfl _ _ _ hw (lv_sub hl [0, 1] rfl)
        · have hsp := iff_ c39 hsp
          refine lv_aload_n hx hb dX11_save_17 rfl (lv_at hl 0 rfl) ?_
          refine k_get (ci := 11) (v := .ref a0.2.2.1) (C := RX11) (T := TX11) (N := 14) hx hb hts hown hz hw (by decide +kernel) 0 rfl rfl 1 (by decide) (hts (.fieldLink RX11 13 "OccupancyMonitorModel" "saved" "[I") (by decide +kernel)) (fun _ h9 => h9) rfl dX11_save_18 ?_
          refine lv_iload_n hx hb dX11_save_21 rfl (lv_at hl 1 rfl) ?_
          refine lv_aload_n hx hb dX11_save_22 rfl (lv_at hl 0 rfl) ?_
          refine k_get (ci := 11) (v := .ref a0.2.2.1) (C := RX11) (T := TX11) (N := 14) hx hb hts hown hz hw (by decide +kernel) 0 rfl rfl 1 (by decide) (hts (.fieldLink RX11 13 "OccupancyMonitorModel" "saved" "[I") (by decide +kernel)) (fun _ h9 => h9) rfl dX11_save_23 ?_
          refine lv_iload_n hx hb dX11_save_26 rfl (lv_at hl 1 rfl) ?_
          refine lv_sipush (v := 804) hx hb dX11_save_27 (by decide) ?_
          refine lv_iadd hx hb dX11_save_30 ?_
          obtain ⟨g40, hsp⟩ := grd_of hsp
          refine k_iald hx hb hz hw 2 rfl g40 dX11_save_31 ?_
          obtain ⟨g41, hsp⟩ := grd_of hsp
          obtain ⟨f42, ef42⟩ : ∃ u : Nat → Int32, u = (upd z10_1 z10_0.toNatClampNeg (z10_1 (z10_0 + (804 : Int32)).toNatClampNeg)) := ⟨_, rfl⟩
          have hsp := lt_of hsp ef42
          refine k_iast (bs1 := [[(a0.1, .inr (11, [.ref a0.2.1, .ref a0.2.2.1, .int v0.2.2.1, .int v0.2.2.2.1, .ref a0.2.2.2.1, .int v0.2.2.2.2.2.1, .int v0.2.2.2.2.2.2.1, .ref a0.2.2.2.2.1, .int v0.2.2.2.2.2.2.2.2.1, .int v0.2.2.2.2.2.2.2.2.2.1, .int v0.2.2.2.2.2.2.2.2.2.2.1, .int v0.2.2.2.2.2.2.2.2.2.2.2.1, .ref a0.2.2.2.2.2, .int v0.2.2.2.2.2.2.2.2.2.2.2.2.2]))], [(a0.2.1, .inl (cA, v0.1.1, .inl v0.1.2))], [(a0.2.2.1, .inl (cA, v0.2.1.1, .inl f42))], [(a0.2.2.2.1, .inl (cA, v0.2.2.2.2.1.1, .inl v0.2.2.2.2.1.2))], [(a0.2.2.2.2.1, .inl (cA, v0.2.2.2.2.2.2.2.1.1, .inl v0.2.2.2.2.2.2.2.1.2))], [(a0.2.2.2.2.2, .inl (cA, v0.2.2.2.2.2.2.2.2.2.2.2.2.1.1, .inl v0.2.2.2.2.2.2.2.2.2.2.2.2.1.2))]]) hx hb hz hw 2 rfl g41 dX11_save_32 (by rw [ef42]; rfl) (fun H locs hw => ?_)
          refine lv_iinc (v := (z10_0 + 1)) (lv' := [(1, .int (z10_0 + 1)), (0, .ref a0.1)]) hx hb dX11_save_33 hl (k := 1) rfl rfl (by decide) rfl (fun ls hl => ?_)
          refine lv_goto (tgt := 10) hx hb dX11_save_36 (by decide) ?_
          exact ih10 (z10_0 + 1) f42 _ hsp _ _ _ hw (lv_sub hl [1, 0] rfl) kx10_39
    obtain ⟨o38, hso38, hsp⟩ := bnd_of hsp
    refine L10 N (0 : Int32) v0.2.1.2 _ hso38 _ _ _ hw (lv_sub hl [1, 0] rfl) (fun y39 hy39 H locs ls hw hl => ?_)
    cases hy39
    refine lv_aload_n hx hb dX11_save_39 rfl (lv_at hl 0 rfl) ?_
    refine lv_dup hx hb dX11_save_40 rfl ?_
    refine k_get (ci := 11) (v := .int v0.2.2.1) (C := RX11) (T := TX11) (N := 14) hx hb hts hown hz hw (by decide +kernel) 0 rfl rfl 2 (by decide) (hts (.fieldLink RX11 32 "OccupancyMonitorModel" "savedMany" "I") (by decide +kernel)) (fun _ h9 => h9) rfl dX11_save_41 ?_
    refine lv_iconst (v := 1) hx hb dX11_save_44 (by decide) ?_
    refine lv_isub hx hb dX11_save_45 ?_
    refine k_put (ci := 11) (v := .int (v0.2.2.1 - (1 : Int32))) (ty := .int) (C := RX11) (T := TX11) (N := 14) (bs1 := [[(a0.1, .inr (11, [.ref a0.2.1, .ref a0.2.2.1, .int (v0.2.2.1 - (1 : Int32)), .int v0.2.2.2.1, .ref a0.2.2.2.1, .int v0.2.2.2.2.2.1, .int v0.2.2.2.2.2.2.1, .ref a0.2.2.2.2.1, .int v0.2.2.2.2.2.2.2.2.1, .int v0.2.2.2.2.2.2.2.2.2.1, .int v0.2.2.2.2.2.2.2.2.2.2.1, .int v0.2.2.2.2.2.2.2.2.2.2.2.1, .ref a0.2.2.2.2.2, .int v0.2.2.2.2.2.2.2.2.2.2.2.2.2]))], [(a0.2.1, .inl (cA, v0.1.1, .inl v0.1.2))], [(a0.2.2.1, .inl (cA, v0.2.1.1, .inl o38.2))], [(a0.2.2.2.1, .inl (cA, v0.2.2.2.2.1.1, .inl v0.2.2.2.2.1.2))], [(a0.2.2.2.2.1, .inl (cA, v0.2.2.2.2.2.2.2.1.1, .inl v0.2.2.2.2.2.2.2.1.2))], [(a0.2.2.2.2.2, .inl (cA, v0.2.2.2.2.2.2.2.2.2.2.2.2.1.1, .inl v0.2.2.2.2.2.2.2.2.2.2.2.2.1.2))]]) hx hb hts hown hz hw (by decide +kernel) tyX11 tyX11_ok nmX11 0 rfl rfl 2 (by decide) (hts (.fieldLink RX11 32 "OccupancyMonitorModel" "savedMany" "I") (by decide +kernel)) (fun _ h9 => h9) rfl (by decide +kernel) rfl rfl (Nat.le_of_ble_eq_true rfl) dX11_save_46 rfl (fun H locs hw => ?_)
    have hsp := Option.some.inj hsp
    subst hsp
    exact Jj15 _ _ _ hw (lv_sub hl [0] rfl)
noncomputable def sX11_isChannel (p1 : Int32) : Option (Int32) := ((sX11_in p1.toInt64 (0 : Int64) (31 : Int64)).bind (fun o1 => (grd (isz o1) (some o1))))
abbrev rX11_isChannel : Room := { frames := 1, cells := 0, slots := 0, locals := 25 }
set_option maxHeartbeats 4000000 in
set_option maxRecDepth 100000 in
theorem mX11_isChannel (l : Launch) (D : va_G) (cA cR : ClassId) (p1 : Int32) (o : Int32) (hsp : sX11_isChannel p1 = some o) : MI l yX11_isChannel wsX11_isChannel rX11_isChannel D cA cR [.int p1] [] (some (.int o)) [] 0 0 := by
  have hsp : ((sX11_in p1.toInt64 (0 : Int64) (31 : Int64)).bind (fun o1 => (grd (isz o1) (some o1)))) = some o := hsp
  refine MI.ofW (cc := cX11_isChannel) (maxL := 1) (ret := (some .boolean)) (by decide) rfl (Nat.le_of_ble_eq_true rfl) ?_
  intro p e s m args below meth c A ls Q H locs hx hb hr hlk hml hown hnm hts hz hA hQ hw hl
  have hl : lv_has ls 1 [(0, .int p1)] := hl
  have hw : ww A s.heap D [] H locs := hw
  refine lv_iload_n hx hb dX11_isChannel_0 rfl (lv_at hl 0 rfl) ?_
  refine lv_i2l hx hb dX11_isChannel_1 rfl ?_
  refine lv_lconst (v := 0) hx hb dX11_isChannel_2 (by decide) ?_
  refine lv_ldc2 hx hb hown (hts (.constantLong RX11 35 31) (by decide +kernel)) dX11_isChannel_3 ?_
  obtain ⟨o1, hso1, hsp⟩ := bnd_of hsp
  refine k_callS (nA := 3) (As := [.long p1.toInt64, .long (0 : Int64), .long (31 : Int64)]) (cs := []) (rs := []) (cs1 := []) (bs1 := []) (rest := []) (st1 := [.int o1]) ⟨hx, hb, hml, hown, hts⟩ hz hw hA (mX11_in l D cA cR p1.toInt64 (0 : Int64) (31 : Int64) o1 hso1) gX11_isChannel_X11_in rfl rfl rfl (by decide +kernel) rfl ⟨Nat.le_of_ble_eq_true rfl, Nat.le_of_ble_eq_true rfl⟩ hl.1 rfl (Nat.le_of_ble_eq_true rfl) dX11_isChannel_6 ⟨Nat.le_of_ble_eq_true rfl, Nat.le_of_ble_eq_true rfl⟩ [] [] [] rfl rfl rfl rfl rfl rfl (fun H locs hw => ?_)
  obtain ⟨g2, hsp⟩ := grd_of hsp
  have hsp := Option.some.inj hsp
  subst hsp
  have hw : ww A s.heap D [] H locs := hw
  subst hQ
  exact k_zret (v := o1) hx hb hr hlk g2 hw dX11_isChannel_9
noncomputable def sX11_isLevel (p1 : Int32) : Option (Int32) := ((sX11_in p1.toInt64 (0 : Int64) (100 : Int64)).bind (fun o1 => (grd (isz o1) (some o1))))
abbrev rX11_isLevel : Room := { frames := 1, cells := 0, slots := 0, locals := 25 }
set_option maxHeartbeats 4000000 in
set_option maxRecDepth 100000 in
theorem mX11_isLevel (l : Launch) (D : va_G) (cA cR : ClassId) (p1 : Int32) (o : Int32) (hsp : sX11_isLevel p1 = some o) : MI l yX11_isLevel wsX11_isLevel rX11_isLevel D cA cR [.int p1] [] (some (.int o)) [] 0 0 := by
  have hsp : ((sX11_in p1.toInt64 (0 : Int64) (100 : Int64)).bind (fun o1 => (grd (isz o1) (some o1)))) = some o := hsp
  refine MI.ofW (cc := cX11_isLevel) (maxL := 1) (ret := (some .boolean)) (by decide) rfl (Nat.le_of_ble_eq_true rfl) ?_
  intro p e s m args below meth c A ls Q H locs hx hb hr hlk hml hown hnm hts hz hA hQ hw hl
  have hl : lv_has ls 1 [(0, .int p1)] := hl
  have hw : ww A s.heap D [] H locs := hw
  refine lv_iload_n hx hb dX11_isLevel_0 rfl (lv_at hl 0 rfl) ?_
  refine lv_i2l hx hb dX11_isLevel_1 rfl ?_
  refine lv_lconst (v := 0) hx hb dX11_isLevel_2 (by decide) ?_
  refine lv_ldc2 hx hb hown (hts (.constantLong RX11 41 100) (by decide +kernel)) dX11_isLevel_3 ?_
  obtain ⟨o1, hso1, hsp⟩ := bnd_of hsp
  refine k_callS (nA := 3) (As := [.long p1.toInt64, .long (0 : Int64), .long (100 : Int64)]) (cs := []) (rs := []) (cs1 := []) (bs1 := []) (rest := []) (st1 := [.int o1]) ⟨hx, hb, hml, hown, hts⟩ hz hw hA (mX11_in l D cA cR p1.toInt64 (0 : Int64) (100 : Int64) o1 hso1) gX11_isLevel_X11_in rfl rfl rfl (by decide +kernel) rfl ⟨Nat.le_of_ble_eq_true rfl, Nat.le_of_ble_eq_true rfl⟩ hl.1 rfl (Nat.le_of_ble_eq_true rfl) dX11_isLevel_6 ⟨Nat.le_of_ble_eq_true rfl, Nat.le_of_ble_eq_true rfl⟩ [] [] [] rfl rfl rfl rfl rfl rfl (fun H locs hw => ?_)
  obtain ⟨g2, hsp⟩ := grd_of hsp
  have hsp := Option.some.inj hsp
  subst hsp
  have hw : ww A s.heap D [] H locs := hw
  subst hQ
  exact k_zret (v := o1) hx hb hr hlk g2 hw dX11_isLevel_9
noncomputable def sX11_isStart (p1 : Int32) : Option (Int32) := ((sX11_in p1.toInt64 (0 : Int64) (100000 : Int64)).bind (fun o1 => (grd (isz o1) (some o1))))
abbrev rX11_isStart : Room := { frames := 1, cells := 0, slots := 0, locals := 25 }
set_option maxHeartbeats 4000000 in
set_option maxRecDepth 100000 in
theorem mX11_isStart (l : Launch) (D : va_G) (cA cR : ClassId) (p1 : Int32) (o : Int32) (hsp : sX11_isStart p1 = some o) : MI l yX11_isStart wsX11_isStart rX11_isStart D cA cR [.int p1] [] (some (.int o)) [] 0 0 := by
  have hsp : ((sX11_in p1.toInt64 (0 : Int64) (100000 : Int64)).bind (fun o1 => (grd (isz o1) (some o1)))) = some o := hsp
  refine MI.ofW (cc := cX11_isStart) (maxL := 1) (ret := (some .boolean)) (by decide) rfl (Nat.le_of_ble_eq_true rfl) ?_
  intro p e s m args below meth c A ls Q H locs hx hb hr hlk hml hown hnm hts hz hA hQ hw hl
  have hl : lv_has ls 1 [(0, .int p1)] := hl
  have hw : ww A s.heap D [] H locs := hw
  refine lv_iload_n hx hb dX11_isStart_0 rfl (lv_at hl 0 rfl) ?_
  refine lv_i2l hx hb dX11_isStart_1 rfl ?_
  refine lv_lconst (v := 0) hx hb dX11_isStart_2 (by decide) ?_
  refine lv_ldc2 hx hb hown (hts (.constantLong RX11 43 100000) (by decide +kernel)) dX11_isStart_3 ?_
  obtain ⟨o1, hso1, hsp⟩ := bnd_of hsp
  refine k_callS (nA := 3) (As := [.long p1.toInt64, .long (0 : Int64), .long (100000 : Int64)]) (cs := []) (rs := []) (cs1 := []) (bs1 := []) (rest := []) (st1 := [.int o1]) ⟨hx, hb, hml, hown, hts⟩ hz hw hA (mX11_in l D cA cR p1.toInt64 (0 : Int64) (100000 : Int64) o1 hso1) gX11_isStart_X11_in rfl rfl rfl (by decide +kernel) rfl ⟨Nat.le_of_ble_eq_true rfl, Nat.le_of_ble_eq_true rfl⟩ hl.1 rfl (Nat.le_of_ble_eq_true rfl) dX11_isStart_6 ⟨Nat.le_of_ble_eq_true rfl, Nat.le_of_ble_eq_true rfl⟩ [] [] [] rfl rfl rfl rfl rfl rfl (fun H locs hw => ?_)
  obtain ⟨g2, hsp⟩ := grd_of hsp
  have hsp := Option.some.inj hsp
  subst hsp
  have hw : ww A s.heap D [] H locs := hw
  subst hQ
  exact k_zret (v := o1) hx hb hr hlk g2 hw dX11_isStart_9
noncomputable def sX11_adds (v0 : V11) (p1 : Int32) (p2 : Int32) (p3 : Int32) (p4 : Int32) (p5 : Int32) (p6 : Int32) : Option (Int32 × V11) := (grd (vp_in (5 : Int32) v0.1.1) (grd (vp_in ((10 : Int32) + ((6 : Int32) * (v0.1.2 (5 : Int32).toNatClampNeg))) v0.1.1) (lt_ (upd v0.1.2 ((10 : Int32) + ((6 : Int32) * (v0.1.2 (5 : Int32).toNatClampNeg))).toNatClampNeg p1) (fun f3 => (grd (vp_in (((10 : Int32) + ((6 : Int32) * (v0.1.2 (5 : Int32).toNatClampNeg))) + (1 : Int32)) v0.1.1) (lt_ (upd f3 (((10 : Int32) + ((6 : Int32) * (v0.1.2 (5 : Int32).toNatClampNeg))) + (1 : Int32)).toNatClampNeg p2) (fun f5 => (grd (vp_in (((10 : Int32) + ((6 : Int32) * (v0.1.2 (5 : Int32).toNatClampNeg))) + (2 : Int32)) v0.1.1) (lt_ (upd f5 (((10 : Int32) + ((6 : Int32) * (v0.1.2 (5 : Int32).toNatClampNeg))) + (2 : Int32)).toNatClampNeg p3) (fun f7 => (grd (vp_in (((10 : Int32) + ((6 : Int32) * (v0.1.2 (5 : Int32).toNatClampNeg))) + (3 : Int32)) v0.1.1) (lt_ (upd f7 (((10 : Int32) + ((6 : Int32) * (v0.1.2 (5 : Int32).toNatClampNeg))) + (3 : Int32)).toNatClampNeg p4) (fun f9 => (grd (vp_in (((10 : Int32) + ((6 : Int32) * (v0.1.2 (5 : Int32).toNatClampNeg))) + (4 : Int32)) v0.1.1) (lt_ (upd f9 (((10 : Int32) + ((6 : Int32) * (v0.1.2 (5 : Int32).toNatClampNeg))) + (4 : Int32)).toNatClampNeg p5) (fun f11 => (grd (vp_in (((10 : Int32) + ((6 : Int32) * (v0.1.2 (5 : Int32).toNatClampNeg))) + (5 : Int32)) v0.1.1) (lt_ (upd f11 (((10 : Int32) + ((6 : Int32) * (v0.1.2 (5 : Int32).toNatClampNeg))) + (5 : Int32)).toNatClampNeg p6) (fun f13 => (grd (vp_in (5 : Int32) v0.1.1) (grd (vp_in (5 : Int32) v0.1.1) (lt_ (upd f13 (5 : Int32).toNatClampNeg ((f13 (5 : Int32).toNatClampNeg) + (1 : Int32))) (fun f16 => (grd (vp_in (5 : Int32) v0.1.1) (some (((f16 (5 : Int32).toNatClampNeg) - (1 : Int32)), ((v0.1.1, f16), v0.2.1, v0.2.2.1, v0.2.2.2.1, v0.2.2.2.2.1, v0.2.2.2.2.2.1, v0.2.2.2.2.2.2.1, v0.2.2.2.2.2.2.2.1, v0.2.2.2.2.2.2.2.2.1, v0.2.2.2.2.2.2.2.2.2.1, v0.2.2.2.2.2.2.2.2.2.2.1, v0.2.2.2.2.2.2.2.2.2.2.2.1, v0.2.2.2.2.2.2.2.2.2.2.2.2.1, v0.2.2.2.2.2.2.2.2.2.2.2.2.2)))))))))))))))))))))))))))
abbrev rX11_adds : Room := { frames := 0, cells := 0, slots := 0, locals := 0 }
set_option maxHeartbeats 4000000 in
set_option maxRecDepth 100000 in
theorem mX11_adds (l : Launch) (D : va_G) (cA cR : ClassId) (a0 : A11) (v0 : V11) (p1 : Int32) (p2 : Int32) (p3 : Int32) (p4 : Int32) (p5 : Int32) (p6 : Int32) (o : Int32 × V11) (hsp : sX11_adds v0 p1 p2 p3 p4 p5 p6 = some o) : MI l yX11_adds wsX11_adds rX11_adds D cA cR [.ref a0.1, .int p1, .int p2, .int p3, .int p4, .int p5, .int p6] [w11 cA a0 v0] (some (.int o.1)) [w11 cA a0 o.2] 0 0 := by
  have hsp : (grd (vp_in (5 : Int32) v0.1.1) (grd (vp_in ((10 : Int32) + ((6 : Int32) * (v0.1.2 (5 : Int32).toNatClampNeg))) v0.1.1) (lt_ (upd v0.1.2 ((10 : Int32) + ((6 : Int32) * (v0.1.2 (5 : Int32).toNatClampNeg))).toNatClampNeg p1) (fun f3 => (grd (vp_in (((10 : Int32) + ((6 : Int32) * (v0.1.2 (5 : Int32).toNatClampNeg))) + (1 : Int32)) v0.1.1) (lt_ (upd f3 (((10 : Int32) + ((6 : Int32) * (v0.1.2 (5 : Int32).toNatClampNeg))) + (1 : Int32)).toNatClampNeg p2) (fun f5 => (grd (vp_in (((10 : Int32) + ((6 : Int32) * (v0.1.2 (5 : Int32).toNatClampNeg))) + (2 : Int32)) v0.1.1) (lt_ (upd f5 (((10 : Int32) + ((6 : Int32) * (v0.1.2 (5 : Int32).toNatClampNeg))) + (2 : Int32)).toNatClampNeg p3) (fun f7 => (grd (vp_in (((10 : Int32) + ((6 : Int32) * (v0.1.2 (5 : Int32).toNatClampNeg))) + (3 : Int32)) v0.1.1) (lt_ (upd f7 (((10 : Int32) + ((6 : Int32) * (v0.1.2 (5 : Int32).toNatClampNeg))) + (3 : Int32)).toNatClampNeg p4) (fun f9 => (grd (vp_in (((10 : Int32) + ((6 : Int32) * (v0.1.2 (5 : Int32).toNatClampNeg))) + (4 : Int32)) v0.1.1) (lt_ (upd f9 (((10 : Int32) + ((6 : Int32) * (v0.1.2 (5 : Int32).toNatClampNeg))) + (4 : Int32)).toNatClampNeg p5) (fun f11 => (grd (vp_in (((10 : Int32) + ((6 : Int32) * (v0.1.2 (5 : Int32).toNatClampNeg))) + (5 : Int32)) v0.1.1) (lt_ (upd f11 (((10 : Int32) + ((6 : Int32) * (v0.1.2 (5 : Int32).toNatClampNeg))) + (5 : Int32)).toNatClampNeg p6) (fun f13 => (grd (vp_in (5 : Int32) v0.1.1) (grd (vp_in (5 : Int32) v0.1.1) (lt_ (upd f13 (5 : Int32).toNatClampNeg ((f13 (5 : Int32).toNatClampNeg) + (1 : Int32))) (fun f16 => (grd (vp_in (5 : Int32) v0.1.1) (some (((f16 (5 : Int32).toNatClampNeg) - (1 : Int32)), ((v0.1.1, f16), v0.2.1, v0.2.2.1, v0.2.2.2.1, v0.2.2.2.2.1, v0.2.2.2.2.2.1, v0.2.2.2.2.2.2.1, v0.2.2.2.2.2.2.2.1, v0.2.2.2.2.2.2.2.2.1, v0.2.2.2.2.2.2.2.2.2.1, v0.2.2.2.2.2.2.2.2.2.2.1, v0.2.2.2.2.2.2.2.2.2.2.2.1, v0.2.2.2.2.2.2.2.2.2.2.2.2.1, v0.2.2.2.2.2.2.2.2.2.2.2.2.2))))))))))))))))))))))))))) = some o := hsp
  refine MI.ofW (cc := cX11_adds) (maxL := 8) (ret := (some .int)) (by decide) rfl (Nat.le_of_ble_eq_true rfl) ?_
  intro p e s m args below meth c A ls Q H locs hx hb hr hlk hml hown hnm hts hz hA hQ hw hl
  have hl : lv_has ls 8 [(0, .ref a0.1), (1, .int p1), (2, .int p2), (3, .int p3), (4, .int p4), (5, .int p5), (6, .int p6)] := hl
  have hw : ww A s.heap D [[(a0.1, .inr (11, [.ref a0.2.1, .ref a0.2.2.1, .int v0.2.2.1, .int v0.2.2.2.1, .ref a0.2.2.2.1, .int v0.2.2.2.2.2.1, .int v0.2.2.2.2.2.2.1, .ref a0.2.2.2.2.1, .int v0.2.2.2.2.2.2.2.2.1, .int v0.2.2.2.2.2.2.2.2.2.1, .int v0.2.2.2.2.2.2.2.2.2.2.1, .int v0.2.2.2.2.2.2.2.2.2.2.2.1, .ref a0.2.2.2.2.2, .int v0.2.2.2.2.2.2.2.2.2.2.2.2.2]))], [(a0.2.1, .inl (cA, v0.1.1, .inl v0.1.2))], [(a0.2.2.1, .inl (cA, v0.2.1.1, .inl v0.2.1.2))], [(a0.2.2.2.1, .inl (cA, v0.2.2.2.2.1.1, .inl v0.2.2.2.2.1.2))], [(a0.2.2.2.2.1, .inl (cA, v0.2.2.2.2.2.2.2.1.1, .inl v0.2.2.2.2.2.2.2.1.2))], [(a0.2.2.2.2.2, .inl (cA, v0.2.2.2.2.2.2.2.2.2.2.2.2.1.1, .inl v0.2.2.2.2.2.2.2.2.2.2.2.2.1.2))]] H locs := hw
  refine lv_bipush (v := 10) hx hb dX11_adds_0 (by decide) ?_
  refine lv_bipush (v := 6) hx hb dX11_adds_2 (by decide) ?_
  refine lv_aload_n hx hb dX11_adds_4 rfl (lv_at hl 0 rfl) ?_
  refine k_get (ci := 11) (v := .ref a0.2.1) (C := RX11) (T := TX11) (N := 14) hx hb hts hown hz hw (by decide +kernel) 0 rfl rfl 0 (by decide) (hts (.fieldLink RX11 7 "OccupancyMonitorModel" "all" "[I") (by decide +kernel)) (fun _ h9 => h9) rfl dX11_adds_5 ?_
  refine lv_iconst (v := 5) hx hb dX11_adds_8 (by decide) ?_
  obtain ⟨g1, hsp⟩ := grd_of hsp
  refine k_iald hx hb hz hw 1 rfl g1 dX11_adds_9 ?_
  refine lv_imul hx hb dX11_adds_10 ?_
  refine lv_iadd hx hb dX11_adds_11 ?_
  refine lv_istore (lv' := [(7, .int ((10 : Int32) + ((6 : Int32) * (v0.1.2 (5 : Int32).toNatClampNeg)))), (0, .ref a0.1), (1, .int p1), (2, .int p2), (3, .int p3), (4, .int p4), (5, .int p5), (6, .int p6)]) hx hb dX11_adds_12 hl (by decide) rfl (fun ls hl => ?_)
  refine lv_aload_n hx hb dX11_adds_14 rfl (lv_at hl 1 rfl) ?_
  refine k_get (ci := 11) (v := .ref a0.2.1) (C := RX11) (T := TX11) (N := 14) hx hb hts hown hz hw (by decide +kernel) 0 rfl rfl 0 (by decide) (hts (.fieldLink RX11 7 "OccupancyMonitorModel" "all" "[I") (by decide +kernel)) (fun _ h9 => h9) rfl dX11_adds_15 ?_
  refine lv_iload hx hb dX11_adds_18 (lv_at hl 0 rfl) ?_
  refine lv_iload_n hx hb dX11_adds_20 rfl (lv_at hl 2 rfl) ?_
  obtain ⟨g2, hsp⟩ := grd_of hsp
  obtain ⟨f3, ef3⟩ : ∃ u : Nat → Int32, u = (upd v0.1.2 ((10 : Int32) + ((6 : Int32) * (v0.1.2 (5 : Int32).toNatClampNeg))).toNatClampNeg p1) := ⟨_, rfl⟩
  have hsp := lt_of hsp ef3
  refine k_iast (bs1 := [[(a0.1, .inr (11, [.ref a0.2.1, .ref a0.2.2.1, .int v0.2.2.1, .int v0.2.2.2.1, .ref a0.2.2.2.1, .int v0.2.2.2.2.2.1, .int v0.2.2.2.2.2.2.1, .ref a0.2.2.2.2.1, .int v0.2.2.2.2.2.2.2.2.1, .int v0.2.2.2.2.2.2.2.2.2.1, .int v0.2.2.2.2.2.2.2.2.2.2.1, .int v0.2.2.2.2.2.2.2.2.2.2.2.1, .ref a0.2.2.2.2.2, .int v0.2.2.2.2.2.2.2.2.2.2.2.2.2]))], [(a0.2.1, .inl (cA, v0.1.1, .inl f3))], [(a0.2.2.1, .inl (cA, v0.2.1.1, .inl v0.2.1.2))], [(a0.2.2.2.1, .inl (cA, v0.2.2.2.2.1.1, .inl v0.2.2.2.2.1.2))], [(a0.2.2.2.2.1, .inl (cA, v0.2.2.2.2.2.2.2.1.1, .inl v0.2.2.2.2.2.2.2.1.2))], [(a0.2.2.2.2.2, .inl (cA, v0.2.2.2.2.2.2.2.2.2.2.2.2.1.1, .inl v0.2.2.2.2.2.2.2.2.2.2.2.2.1.2))]]) hx hb hz hw 1 rfl g2 dX11_adds_21 (by rw [ef3]; rfl) (fun H locs hw => ?_)
  refine lv_aload_n hx hb dX11_adds_22 rfl (lv_at hl 1 rfl) ?_
  refine k_get (ci := 11) (v := .ref a0.2.1) (C := RX11) (T := TX11) (N := 14) hx hb hts hown hz hw (by decide +kernel) 0 rfl rfl 0 (by decide) (hts (.fieldLink RX11 7 "OccupancyMonitorModel" "all" "[I") (by decide +kernel)) (fun _ h9 => h9) rfl dX11_adds_23 ?_
  refine lv_iload hx hb dX11_adds_26 (lv_at hl 0 rfl) ?_
  refine lv_iconst (v := 1) hx hb dX11_adds_28 (by decide) ?_
  refine lv_iadd hx hb dX11_adds_29 ?_
  refine lv_iload_n hx hb dX11_adds_30 rfl (lv_at hl 3 rfl) ?_
  obtain ⟨g4, hsp⟩ := grd_of hsp
  obtain ⟨f5, ef5⟩ : ∃ u : Nat → Int32, u = (upd f3 (((10 : Int32) + ((6 : Int32) * (v0.1.2 (5 : Int32).toNatClampNeg))) + (1 : Int32)).toNatClampNeg p2) := ⟨_, rfl⟩
  have hsp := lt_of hsp ef5
  refine k_iast (bs1 := [[(a0.1, .inr (11, [.ref a0.2.1, .ref a0.2.2.1, .int v0.2.2.1, .int v0.2.2.2.1, .ref a0.2.2.2.1, .int v0.2.2.2.2.2.1, .int v0.2.2.2.2.2.2.1, .ref a0.2.2.2.2.1, .int v0.2.2.2.2.2.2.2.2.1, .int v0.2.2.2.2.2.2.2.2.2.1, .int v0.2.2.2.2.2.2.2.2.2.2.1, .int v0.2.2.2.2.2.2.2.2.2.2.2.1, .ref a0.2.2.2.2.2, .int v0.2.2.2.2.2.2.2.2.2.2.2.2.2]))], [(a0.2.1, .inl (cA, v0.1.1, .inl f5))], [(a0.2.2.1, .inl (cA, v0.2.1.1, .inl v0.2.1.2))], [(a0.2.2.2.1, .inl (cA, v0.2.2.2.2.1.1, .inl v0.2.2.2.2.1.2))], [(a0.2.2.2.2.1, .inl (cA, v0.2.2.2.2.2.2.2.1.1, .inl v0.2.2.2.2.2.2.2.1.2))], [(a0.2.2.2.2.2, .inl (cA, v0.2.2.2.2.2.2.2.2.2.2.2.2.1.1, .inl v0.2.2.2.2.2.2.2.2.2.2.2.2.1.2))]]) hx hb hz hw 1 rfl g4 dX11_adds_31 (by rw [ef5]; rfl) (fun H locs hw => ?_)
  refine lv_aload_n hx hb dX11_adds_32 rfl (lv_at hl 1 rfl) ?_
  refine k_get (ci := 11) (v := .ref a0.2.1) (C := RX11) (T := TX11) (N := 14) hx hb hts hown hz hw (by decide +kernel) 0 rfl rfl 0 (by decide) (hts (.fieldLink RX11 7 "OccupancyMonitorModel" "all" "[I") (by decide +kernel)) (fun _ h9 => h9) rfl dX11_adds_33 ?_
  refine lv_iload hx hb dX11_adds_36 (lv_at hl 0 rfl) ?_
  refine lv_iconst (v := 2) hx hb dX11_adds_38 (by decide) ?_
  refine lv_iadd hx hb dX11_adds_39 ?_
  refine lv_iload_n hx hb dX11_adds_40 rfl (lv_at hl 4 rfl) ?_
  obtain ⟨g6, hsp⟩ := grd_of hsp
  obtain ⟨f7, ef7⟩ : ∃ u : Nat → Int32, u = (upd f5 (((10 : Int32) + ((6 : Int32) * (v0.1.2 (5 : Int32).toNatClampNeg))) + (2 : Int32)).toNatClampNeg p3) := ⟨_, rfl⟩
  have hsp := lt_of hsp ef7
  refine k_iast (bs1 := [[(a0.1, .inr (11, [.ref a0.2.1, .ref a0.2.2.1, .int v0.2.2.1, .int v0.2.2.2.1, .ref a0.2.2.2.1, .int v0.2.2.2.2.2.1, .int v0.2.2.2.2.2.2.1, .ref a0.2.2.2.2.1, .int v0.2.2.2.2.2.2.2.2.1, .int v0.2.2.2.2.2.2.2.2.2.1, .int v0.2.2.2.2.2.2.2.2.2.2.1, .int v0.2.2.2.2.2.2.2.2.2.2.2.1, .ref a0.2.2.2.2.2, .int v0.2.2.2.2.2.2.2.2.2.2.2.2.2]))], [(a0.2.1, .inl (cA, v0.1.1, .inl f7))], [(a0.2.2.1, .inl (cA, v0.2.1.1, .inl v0.2.1.2))], [(a0.2.2.2.1, .inl (cA, v0.2.2.2.2.1.1, .inl v0.2.2.2.2.1.2))], [(a0.2.2.2.2.1, .inl (cA, v0.2.2.2.2.2.2.2.1.1, .inl v0.2.2.2.2.2.2.2.1.2))], [(a0.2.2.2.2.2, .inl (cA, v0.2.2.2.2.2.2.2.2.2.2.2.2.1.1, .inl v0.2.2.2.2.2.2.2.2.2.2.2.2.1.2))]]) hx hb hz hw 1 rfl g6 dX11_adds_41 (by rw [ef7]; rfl) (fun H locs hw => ?_)
  refine lv_aload_n hx hb dX11_adds_42 rfl (lv_at hl 1 rfl) ?_
  refine k_get (ci := 11) (v := .ref a0.2.1) (C := RX11) (T := TX11) (N := 14) hx hb hts hown hz hw (by decide +kernel) 0 rfl rfl 0 (by decide) (hts (.fieldLink RX11 7 "OccupancyMonitorModel" "all" "[I") (by decide +kernel)) (fun _ h9 => h9) rfl dX11_adds_43 ?_
  refine lv_iload hx hb dX11_adds_46 (lv_at hl 0 rfl) ?_
  refine lv_iconst (v := 3) hx hb dX11_adds_48 (by decide) ?_
  refine lv_iadd hx hb dX11_adds_49 ?_
  refine lv_iload hx hb dX11_adds_50 (lv_at hl 5 rfl) ?_
  obtain ⟨g8, hsp⟩ := grd_of hsp
  obtain ⟨f9, ef9⟩ : ∃ u : Nat → Int32, u = (upd f7 (((10 : Int32) + ((6 : Int32) * (v0.1.2 (5 : Int32).toNatClampNeg))) + (3 : Int32)).toNatClampNeg p4) := ⟨_, rfl⟩
  have hsp := lt_of hsp ef9
  refine k_iast (bs1 := [[(a0.1, .inr (11, [.ref a0.2.1, .ref a0.2.2.1, .int v0.2.2.1, .int v0.2.2.2.1, .ref a0.2.2.2.1, .int v0.2.2.2.2.2.1, .int v0.2.2.2.2.2.2.1, .ref a0.2.2.2.2.1, .int v0.2.2.2.2.2.2.2.2.1, .int v0.2.2.2.2.2.2.2.2.2.1, .int v0.2.2.2.2.2.2.2.2.2.2.1, .int v0.2.2.2.2.2.2.2.2.2.2.2.1, .ref a0.2.2.2.2.2, .int v0.2.2.2.2.2.2.2.2.2.2.2.2.2]))], [(a0.2.1, .inl (cA, v0.1.1, .inl f9))], [(a0.2.2.1, .inl (cA, v0.2.1.1, .inl v0.2.1.2))], [(a0.2.2.2.1, .inl (cA, v0.2.2.2.2.1.1, .inl v0.2.2.2.2.1.2))], [(a0.2.2.2.2.1, .inl (cA, v0.2.2.2.2.2.2.2.1.1, .inl v0.2.2.2.2.2.2.2.1.2))], [(a0.2.2.2.2.2, .inl (cA, v0.2.2.2.2.2.2.2.2.2.2.2.2.1.1, .inl v0.2.2.2.2.2.2.2.2.2.2.2.2.1.2))]]) hx hb hz hw 1 rfl g8 dX11_adds_52 (by rw [ef9]; rfl) (fun H locs hw => ?_)
  refine lv_aload_n hx hb dX11_adds_53 rfl (lv_at hl 1 rfl) ?_
  refine k_get (ci := 11) (v := .ref a0.2.1) (C := RX11) (T := TX11) (N := 14) hx hb hts hown hz hw (by decide +kernel) 0 rfl rfl 0 (by decide) (hts (.fieldLink RX11 7 "OccupancyMonitorModel" "all" "[I") (by decide +kernel)) (fun _ h9 => h9) rfl dX11_adds_54 ?_
  refine lv_iload hx hb dX11_adds_57 (lv_at hl 0 rfl) ?_
  refine lv_iconst (v := 4) hx hb dX11_adds_59 (by decide) ?_
  refine lv_iadd hx hb dX11_adds_60 ?_
  refine lv_iload hx hb dX11_adds_61 (lv_at hl 6 rfl) ?_
  obtain ⟨g10, hsp⟩ := grd_of hsp
  obtain ⟨f11, ef11⟩ : ∃ u : Nat → Int32, u = (upd f9 (((10 : Int32) + ((6 : Int32) * (v0.1.2 (5 : Int32).toNatClampNeg))) + (4 : Int32)).toNatClampNeg p5) := ⟨_, rfl⟩
  have hsp := lt_of hsp ef11
  refine k_iast (bs1 := [[(a0.1, .inr (11, [.ref a0.2.1, .ref a0.2.2.1, .int v0.2.2.1, .int v0.2.2.2.1, .ref a0.2.2.2.1, .int v0.2.2.2.2.2.1, .int v0.2.2.2.2.2.2.1, .ref a0.2.2.2.2.1, .int v0.2.2.2.2.2.2.2.2.1, .int v0.2.2.2.2.2.2.2.2.2.1, .int v0.2.2.2.2.2.2.2.2.2.2.1, .int v0.2.2.2.2.2.2.2.2.2.2.2.1, .ref a0.2.2.2.2.2, .int v0.2.2.2.2.2.2.2.2.2.2.2.2.2]))], [(a0.2.1, .inl (cA, v0.1.1, .inl f11))], [(a0.2.2.1, .inl (cA, v0.2.1.1, .inl v0.2.1.2))], [(a0.2.2.2.1, .inl (cA, v0.2.2.2.2.1.1, .inl v0.2.2.2.2.1.2))], [(a0.2.2.2.2.1, .inl (cA, v0.2.2.2.2.2.2.2.1.1, .inl v0.2.2.2.2.2.2.2.1.2))], [(a0.2.2.2.2.2, .inl (cA, v0.2.2.2.2.2.2.2.2.2.2.2.2.1.1, .inl v0.2.2.2.2.2.2.2.2.2.2.2.2.1.2))]]) hx hb hz hw 1 rfl g10 dX11_adds_63 (by rw [ef11]; rfl) (fun H locs hw => ?_)
  refine lv_aload_n hx hb dX11_adds_64 rfl (lv_at hl 1 rfl) ?_
  refine k_get (ci := 11) (v := .ref a0.2.1) (C := RX11) (T := TX11) (N := 14) hx hb hts hown hz hw (by decide +kernel) 0 rfl rfl 0 (by decide) (hts (.fieldLink RX11 7 "OccupancyMonitorModel" "all" "[I") (by decide +kernel)) (fun _ h9 => h9) rfl dX11_adds_65 ?_
  refine lv_iload hx hb dX11_adds_68 (lv_at hl 0 rfl) ?_
  refine lv_iconst (v := 5) hx hb dX11_adds_70 (by decide) ?_
  refine lv_iadd hx hb dX11_adds_71 ?_
  refine lv_iload hx hb dX11_adds_72 (lv_at hl 7 rfl) ?_
  obtain ⟨g12, hsp⟩ := grd_of hsp
  obtain ⟨f13, ef13⟩ : ∃ u : Nat → Int32, u = (upd f11 (((10 : Int32) + ((6 : Int32) * (v0.1.2 (5 : Int32).toNatClampNeg))) + (5 : Int32)).toNatClampNeg p6) := ⟨_, rfl⟩
  have hsp := lt_of hsp ef13
  refine k_iast (bs1 := [[(a0.1, .inr (11, [.ref a0.2.1, .ref a0.2.2.1, .int v0.2.2.1, .int v0.2.2.2.1, .ref a0.2.2.2.1, .int v0.2.2.2.2.2.1, .int v0.2.2.2.2.2.2.1, .ref a0.2.2.2.2.1, .int v0.2.2.2.2.2.2.2.2.1, .int v0.2.2.2.2.2.2.2.2.2.1, .int v0.2.2.2.2.2.2.2.2.2.2.1, .int v0.2.2.2.2.2.2.2.2.2.2.2.1, .ref a0.2.2.2.2.2, .int v0.2.2.2.2.2.2.2.2.2.2.2.2.2]))], [(a0.2.1, .inl (cA, v0.1.1, .inl f13))], [(a0.2.2.1, .inl (cA, v0.2.1.1, .inl v0.2.1.2))], [(a0.2.2.2.1, .inl (cA, v0.2.2.2.2.1.1, .inl v0.2.2.2.2.1.2))], [(a0.2.2.2.2.1, .inl (cA, v0.2.2.2.2.2.2.2.1.1, .inl v0.2.2.2.2.2.2.2.1.2))], [(a0.2.2.2.2.2, .inl (cA, v0.2.2.2.2.2.2.2.2.2.2.2.2.1.1, .inl v0.2.2.2.2.2.2.2.2.2.2.2.2.1.2))]]) hx hb hz hw 1 rfl g12 dX11_adds_74 (by rw [ef13]; rfl) (fun H locs hw => ?_)
  refine lv_aload_n hx hb dX11_adds_75 rfl (lv_at hl 1 rfl) ?_
  refine k_get (ci := 11) (v := .ref a0.2.1) (C := RX11) (T := TX11) (N := 14) hx hb hts hown hz hw (by decide +kernel) 0 rfl rfl 0 (by decide) (hts (.fieldLink RX11 7 "OccupancyMonitorModel" "all" "[I") (by decide +kernel)) (fun _ h9 => h9) rfl dX11_adds_76 ?_
  refine lv_iconst (v := 5) hx hb dX11_adds_79 (by decide) ?_
  refine lv_dup2_11 hx hb dX11_adds_80 rfl rfl ?_
  obtain ⟨g14, hsp⟩ := grd_of hsp
  refine k_iald hx hb hz hw 1 rfl g14 dX11_adds_81 ?_
  refine lv_iconst (v := 1) hx hb dX11_adds_82 (by decide) ?_
  refine lv_iadd hx hb dX11_adds_83 ?_
  obtain ⟨g15, hsp⟩ := grd_of hsp
  obtain ⟨f16, ef16⟩ : ∃ u : Nat → Int32, u = (upd f13 (5 : Int32).toNatClampNeg ((f13 (5 : Int32).toNatClampNeg) + (1 : Int32))) := ⟨_, rfl⟩
  have hsp := lt_of hsp ef16
  refine k_iast (bs1 := [[(a0.1, .inr (11, [.ref a0.2.1, .ref a0.2.2.1, .int v0.2.2.1, .int v0.2.2.2.1, .ref a0.2.2.2.1, .int v0.2.2.2.2.2.1, .int v0.2.2.2.2.2.2.1, .ref a0.2.2.2.2.1, .int v0.2.2.2.2.2.2.2.2.1, .int v0.2.2.2.2.2.2.2.2.2.1, .int v0.2.2.2.2.2.2.2.2.2.2.1, .int v0.2.2.2.2.2.2.2.2.2.2.2.1, .ref a0.2.2.2.2.2, .int v0.2.2.2.2.2.2.2.2.2.2.2.2.2]))], [(a0.2.1, .inl (cA, v0.1.1, .inl f16))], [(a0.2.2.1, .inl (cA, v0.2.1.1, .inl v0.2.1.2))], [(a0.2.2.2.1, .inl (cA, v0.2.2.2.2.1.1, .inl v0.2.2.2.2.1.2))], [(a0.2.2.2.2.1, .inl (cA, v0.2.2.2.2.2.2.2.1.1, .inl v0.2.2.2.2.2.2.2.1.2))], [(a0.2.2.2.2.2, .inl (cA, v0.2.2.2.2.2.2.2.2.2.2.2.2.1.1, .inl v0.2.2.2.2.2.2.2.2.2.2.2.2.1.2))]]) hx hb hz hw 1 rfl g15 dX11_adds_84 (by rw [ef16]; rfl) (fun H locs hw => ?_)
  refine lv_aload_n hx hb dX11_adds_85 rfl (lv_at hl 1 rfl) ?_
  refine k_get (ci := 11) (v := .ref a0.2.1) (C := RX11) (T := TX11) (N := 14) hx hb hts hown hz hw (by decide +kernel) 0 rfl rfl 0 (by decide) (hts (.fieldLink RX11 7 "OccupancyMonitorModel" "all" "[I") (by decide +kernel)) (fun _ h9 => h9) rfl dX11_adds_86 ?_
  refine lv_iconst (v := 5) hx hb dX11_adds_89 (by decide) ?_
  obtain ⟨g17, hsp⟩ := grd_of hsp
  refine k_iald hx hb hz hw 1 rfl g17 dX11_adds_90 ?_
  refine lv_iconst (v := 1) hx hb dX11_adds_91 (by decide) ?_
  refine lv_isub hx hb dX11_adds_92 ?_
  have hsp := Option.some.inj hsp
  subst hsp
  have hw : ww A s.heap D [w11 cA a0 ((v0.1.1, f16), v0.2.1, v0.2.2.1, v0.2.2.2.1, v0.2.2.2.2.1, v0.2.2.2.2.2.1, v0.2.2.2.2.2.2.1, v0.2.2.2.2.2.2.2.1, v0.2.2.2.2.2.2.2.2.1, v0.2.2.2.2.2.2.2.2.2.1, v0.2.2.2.2.2.2.2.2.2.2.1, v0.2.2.2.2.2.2.2.2.2.2.2.1, v0.2.2.2.2.2.2.2.2.2.2.2.2.1, v0.2.2.2.2.2.2.2.2.2.2.2.2.2)] H locs := hw
  subst hQ
  exact k_iret hx hb hr hlk hw dX11_adds_93
noncomputable def sX11_addPulsed (N : Nat) (v0 : V11) (p1 : Int32) (p2 : Int32) (p3 : Int32) (p4 : Int32) (p5 : Int32) : Option (Int32 × V11) := ((sX11_isChannel p1).bind (fun o1 => (((if o1 = 0 then (some (0 : Int32)) else ((sX11_isLevel p2).bind (fun o21 => (if o21 = 0 then (some (0 : Int32)) else ((sX11_isStart p3).bind (fun o23 => (if o23 = 0 then (some (0 : Int32)) else ((sX11_in p5.toInt64 (1 : Int64) (1000 : Int64)).bind (fun o25 => (if o25 = 0 then (some (0 : Int32)) else ((sX11_in p4.toInt64 (1 : Int64) p5.toInt64).bind (fun o27 => (if o27 = 0 then (some (0 : Int32)) else (some (1 : Int32))))))))))))))) : Option (Int32)).bind (fun j11 => (grd (vp_in (5 : Int32) v0.1.1) (((if (10 : Int32) ≤ (v0.1.2 (5 : Int32).toNatClampNeg) then (some (0 : Int32)) else (some (1 : Int32))) : Option (Int32)).bind (fun j14 => ((sX11_goes v0 j11 j14).bind (fun o15 => (if o15.1 = 0 then (some ((0 : Int32), o15.2)) else ((sX11_save N o15.2).bind (fun o17 => ((sX11_adds o17 (0 : Int32) p1 p2 p3 p4 p5).bind (fun o18 => (some (o18.1, o18.2))))))))))))))))
abbrev rX11_addPulsed : Room := { frames := 2, cells := 0, slots := 0, locals := 45 }
set_option maxHeartbeats 4000000 in
set_option maxRecDepth 100000 in
theorem mX11_addPulsed (l : Launch) (D : va_G) (cA cR : ClassId) (N : Nat) (a0 : A11) (v0 : V11) (p1 : Int32) (p2 : Int32) (p3 : Int32) (p4 : Int32) (p5 : Int32) (o : Int32 × V11) (hsp : sX11_addPulsed N v0 p1 p2 p3 p4 p5 = some o) : MI l yX11_addPulsed wsX11_addPulsed rX11_addPulsed D cA cR [.ref a0.1, .int p1, .int p2, .int p3, .int p4, .int p5] [w11 cA a0 v0] (some (.int o.1)) [w11 cA a0 o.2] 0 0 := by
  have hsp : ((sX11_isChannel p1).bind (fun o1 => (((if o1 = 0 then (some (0 : Int32)) else ((sX11_isLevel p2).bind (fun o21 => (if o21 = 0 then (some (0 : Int32)) else ((sX11_isStart p3).bind (fun o23 => (if o23 = 0 then (some (0 : Int32)) else ((sX11_in p5.toInt64 (1 : Int64) (1000 : Int64)).bind (fun o25 => (if o25 = 0 then (some (0 : Int32)) else ((sX11_in p4.toInt64 (1 : Int64) p5.toInt64).bind (fun o27 => (if o27 = 0 then (some (0 : Int32)) else (some (1 : Int32))))))))))))))) : Option (Int32)).bind (fun j11 => (grd (vp_in (5 : Int32) v0.1.1) (((if (10 : Int32) ≤ (v0.1.2 (5 : Int32).toNatClampNeg) then (some (0 : Int32)) else (some (1 : Int32))) : Option (Int32)).bind (fun j14 => ((sX11_goes v0 j11 j14).bind (fun o15 => (if o15.1 = 0 then (some ((0 : Int32), o15.2)) else ((sX11_save N o15.2).bind (fun o17 => ((sX11_adds o17 (0 : Int32) p1 p2 p3 p4 p5).bind (fun o18 => (some (o18.1, o18.2)))))))))))))))) = some o := hsp
  refine MI.ofW (cc := cX11_addPulsed) (maxL := 7) (ret := (some .int)) (by decide) rfl (Nat.le_of_ble_eq_true rfl) ?_
  intro p e s m args below meth c A ls Q H locs hx hb hr hlk hml hown hnm hts hz hA hQ hw hl
  have hl : lv_has ls 7 [(0, .ref a0.1), (1, .int p1), (2, .int p2), (3, .int p3), (4, .int p4), (5, .int p5)] := hl
  have hw : ww A s.heap D [[(a0.1, .inr (11, [.ref a0.2.1, .ref a0.2.2.1, .int v0.2.2.1, .int v0.2.2.2.1, .ref a0.2.2.2.1, .int v0.2.2.2.2.2.1, .int v0.2.2.2.2.2.2.1, .ref a0.2.2.2.2.1, .int v0.2.2.2.2.2.2.2.2.1, .int v0.2.2.2.2.2.2.2.2.2.1, .int v0.2.2.2.2.2.2.2.2.2.2.1, .int v0.2.2.2.2.2.2.2.2.2.2.2.1, .ref a0.2.2.2.2.2, .int v0.2.2.2.2.2.2.2.2.2.2.2.2.2]))], [(a0.2.1, .inl (cA, v0.1.1, .inl v0.1.2))], [(a0.2.2.1, .inl (cA, v0.2.1.1, .inl v0.2.1.2))], [(a0.2.2.2.1, .inl (cA, v0.2.2.2.2.1.1, .inl v0.2.2.2.2.1.2))], [(a0.2.2.2.2.1, .inl (cA, v0.2.2.2.2.2.2.2.1.1, .inl v0.2.2.2.2.2.2.2.1.2))], [(a0.2.2.2.2.2, .inl (cA, v0.2.2.2.2.2.2.2.2.2.2.2.2.1.1, .inl v0.2.2.2.2.2.2.2.2.2.2.2.2.1.2))]] H locs := hw
  refine lv_iload_n hx hb dX11_addPulsed_0 rfl (lv_at hl 1 rfl) ?_
  obtain ⟨o1, hso1, hsp⟩ := bnd_of hsp
  refine k_callS (nA := 1) (As := [.int p1]) (cs := []) (rs := [[(a0.1, .inr (11, [.ref a0.2.1, .ref a0.2.2.1, .int v0.2.2.1, .int v0.2.2.2.1, .ref a0.2.2.2.1, .int v0.2.2.2.2.2.1, .int v0.2.2.2.2.2.2.1, .ref a0.2.2.2.2.1, .int v0.2.2.2.2.2.2.2.2.1, .int v0.2.2.2.2.2.2.2.2.2.1, .int v0.2.2.2.2.2.2.2.2.2.2.1, .int v0.2.2.2.2.2.2.2.2.2.2.2.1, .ref a0.2.2.2.2.2, .int v0.2.2.2.2.2.2.2.2.2.2.2.2.2]))], [(a0.2.1, .inl (cA, v0.1.1, .inl v0.1.2))], [(a0.2.2.1, .inl (cA, v0.2.1.1, .inl v0.2.1.2))], [(a0.2.2.2.1, .inl (cA, v0.2.2.2.2.1.1, .inl v0.2.2.2.2.1.2))], [(a0.2.2.2.2.1, .inl (cA, v0.2.2.2.2.2.2.2.1.1, .inl v0.2.2.2.2.2.2.2.1.2))], [(a0.2.2.2.2.2, .inl (cA, v0.2.2.2.2.2.2.2.2.2.2.2.2.1.1, .inl v0.2.2.2.2.2.2.2.2.2.2.2.2.1.2))]]) (cs1 := []) (bs1 := [[(a0.1, .inr (11, [.ref a0.2.1, .ref a0.2.2.1, .int v0.2.2.1, .int v0.2.2.2.1, .ref a0.2.2.2.1, .int v0.2.2.2.2.2.1, .int v0.2.2.2.2.2.2.1, .ref a0.2.2.2.2.1, .int v0.2.2.2.2.2.2.2.2.1, .int v0.2.2.2.2.2.2.2.2.2.1, .int v0.2.2.2.2.2.2.2.2.2.2.1, .int v0.2.2.2.2.2.2.2.2.2.2.2.1, .ref a0.2.2.2.2.2, .int v0.2.2.2.2.2.2.2.2.2.2.2.2.2]))], [(a0.2.1, .inl (cA, v0.1.1, .inl v0.1.2))], [(a0.2.2.1, .inl (cA, v0.2.1.1, .inl v0.2.1.2))], [(a0.2.2.2.1, .inl (cA, v0.2.2.2.2.1.1, .inl v0.2.2.2.2.1.2))], [(a0.2.2.2.2.1, .inl (cA, v0.2.2.2.2.2.2.2.1.1, .inl v0.2.2.2.2.2.2.2.1.2))], [(a0.2.2.2.2.2, .inl (cA, v0.2.2.2.2.2.2.2.2.2.2.2.2.1.1, .inl v0.2.2.2.2.2.2.2.2.2.2.2.2.1.2))]]) (rest := []) (st1 := [.int o1]) ⟨hx, hb, hml, hown, hts⟩ hz hw hA (mX11_isChannel l D cA cR p1 o1 hso1) gX11_addPulsed_X11_isChannel rfl rfl rfl (by decide +kernel) rfl ⟨Nat.le_of_ble_eq_true rfl, Nat.le_of_ble_eq_true rfl⟩ hl.1 rfl (Nat.le_of_ble_eq_true rfl) dX11_addPulsed_1 ⟨Nat.le_of_ble_eq_true rfl, Nat.le_of_ble_eq_true rfl⟩ [] [0, 1, 2, 3, 4, 5] [0, 1, 2, 3, 4, 5] rfl rfl rfl rfl rfl rfl (fun H locs hw => ?_)
  obtain ⟨j11, hsj11, hkj11⟩ := bnd_of hsp
  have Jj11 : ∀ (H : Heap) (locs : List Loc) (ls : Array Slot), ww A s.heap D [[(a0.1, .inr (11, [.ref a0.2.1, .ref a0.2.2.1, .int v0.2.2.1, .int v0.2.2.2.1, .ref a0.2.2.2.1, .int v0.2.2.2.2.2.1, .int v0.2.2.2.2.2.2.1, .ref a0.2.2.2.2.1, .int v0.2.2.2.2.2.2.2.2.1, .int v0.2.2.2.2.2.2.2.2.2.1, .int v0.2.2.2.2.2.2.2.2.2.2.1, .int v0.2.2.2.2.2.2.2.2.2.2.2.1, .ref a0.2.2.2.2.2, .int v0.2.2.2.2.2.2.2.2.2.2.2.2.2]))], [(a0.2.1, .inl (cA, v0.1.1, .inl v0.1.2))], [(a0.2.2.1, .inl (cA, v0.2.1.1, .inl v0.2.1.2))], [(a0.2.2.2.1, .inl (cA, v0.2.2.2.2.1.1, .inl v0.2.2.2.2.1.2))], [(a0.2.2.2.2.1, .inl (cA, v0.2.2.2.2.2.2.2.1.1, .inl v0.2.2.2.2.2.2.2.1.2))], [(a0.2.2.2.2.2, .inl (cA, v0.2.2.2.2.2.2.2.2.2.2.2.2.1.1, .inl v0.2.2.2.2.2.2.2.2.2.2.2.2.1.2))]] H locs → lv_has ls 7 [(0, .ref a0.1), (1, .int p1), (2, .int p2), (3, .int p3), (4, .int p4), (5, .int p5)] → W p l e rX11_addPulsed s m args below meth c H locs 0 0 Q (F0 m 52 ls [.int j11]) := by
    intro H locs ls hw hl
    have hsp := hkj11
    refine lv_istore (lv' := [(6, .int j11), (0, .ref a0.1), (1, .int p1), (2, .int p2), (3, .int p3), (4, .int p4), (5, .int p5)]) hx hb dX11_addPulsed_52 hl (by decide) rfl (fun ls hl => ?_)
    refine lv_aload_n hx hb dX11_addPulsed_54 rfl (lv_at hl 1 rfl) ?_
    refine lv_iload hx hb dX11_addPulsed_55 (lv_at hl 0 rfl) ?_
    refine lv_aload_n hx hb dX11_addPulsed_57 rfl (lv_at hl 1 rfl) ?_
    refine k_get (ci := 11) (v := .ref a0.2.1) (C := RX11) (T := TX11) (N := 14) hx hb hts hown hz hw (by decide +kernel) 0 rfl rfl 0 (by decide) (hts (.fieldLink RX11 7 "OccupancyMonitorModel" "all" "[I") (by decide +kernel)) (fun _ h9 => h9) rfl dX11_addPulsed_58 ?_
    refine lv_iconst (v := 5) hx hb dX11_addPulsed_61 (by decide) ?_
    obtain ⟨g12, hsp⟩ := grd_of hsp
    refine k_iald hx hb hz hw 1 rfl g12 dX11_addPulsed_62 ?_
    refine lv_bipush (v := 10) hx hb dX11_addPulsed_63 (by decide) ?_
    obtain ⟨j14, hsj14, hkj14⟩ := bnd_of hsp
    have Jj14 : ∀ (H : Heap) (locs : List Loc) (ls : Array Slot), ww A s.heap D [[(a0.1, .inr (11, [.ref a0.2.1, .ref a0.2.2.1, .int v0.2.2.1, .int v0.2.2.2.1, .ref a0.2.2.2.1, .int v0.2.2.2.2.2.1, .int v0.2.2.2.2.2.2.1, .ref a0.2.2.2.2.1, .int v0.2.2.2.2.2.2.2.2.1, .int v0.2.2.2.2.2.2.2.2.2.1, .int v0.2.2.2.2.2.2.2.2.2.2.1, .int v0.2.2.2.2.2.2.2.2.2.2.2.1, .ref a0.2.2.2.2.2, .int v0.2.2.2.2.2.2.2.2.2.2.2.2.2]))], [(a0.2.1, .inl (cA, v0.1.1, .inl v0.1.2))], [(a0.2.2.1, .inl (cA, v0.2.1.1, .inl v0.2.1.2))], [(a0.2.2.2.1, .inl (cA, v0.2.2.2.2.1.1, .inl v0.2.2.2.2.1.2))], [(a0.2.2.2.2.1, .inl (cA, v0.2.2.2.2.2.2.2.1.1, .inl v0.2.2.2.2.2.2.2.1.2))], [(a0.2.2.2.2.2, .inl (cA, v0.2.2.2.2.2.2.2.2.2.2.2.2.1.1, .inl v0.2.2.2.2.2.2.2.2.2.2.2.2.1.2))]] H locs → lv_has ls 7 [(0, .ref a0.1), (1, .int p1), (2, .int p2), (3, .int p3), (4, .int p4), (5, .int p5), (6, .int j11)] → W p l e rX11_addPulsed s m args below meth c H locs 0 0 Q (F0 m 73 ls [.int j14, .int j11, .ref a0.1]) := by
      intro H locs ls hw hl
      have hsp := hkj14
      have hw : ww A s.heap D [w11 cA a0 v0] H locs := hw
      obtain ⟨o15, hso15, hsp⟩ := bnd_of hsp
      refine k_callV (ci := 11) (C := RX11) (T := TX11) (N := 14) (nA := 2) (As := [.int j11, .int j14]) (cs := [w11 cA a0 v0]) (rs := []) (cs1 := [w11 cA a0 o15.2]) (bs1 := [w11 cA a0 o15.2]) (rest := []) (st1 := [.int o15.1]) ⟨hx, hb, hml, hown, hts⟩ hz hw hA (mX11_goes l D cA cR a0 v0 j11 j14 o15 hso15) gX11_addPulsed_X11_goes rfl rfl rfl (by decide +kernel) rfl ⟨Nat.le_of_ble_eq_true rfl, Nat.le_of_ble_eq_true rfl⟩ rfl rfl hl.1 rfl (Nat.le_of_ble_eq_true rfl) dX11_addPulsed_73 ⟨Nat.le_of_ble_eq_true rfl, Nat.le_of_ble_eq_true rfl⟩ [0] [] [0] rfl rfl rfl rfl rfl rfl (fun H locs hw => ?_)
      have hw : ww A s.heap D [[(a0.1, .inr (11, [.ref a0.2.1, .ref a0.2.2.1, .int o15.2.2.2.1, .int o15.2.2.2.2.1, .ref a0.2.2.2.1, .int o15.2.2.2.2.2.2.1, .int o15.2.2.2.2.2.2.2.1, .ref a0.2.2.2.2.1, .int o15.2.2.2.2.2.2.2.2.2.1, .int o15.2.2.2.2.2.2.2.2.2.2.1, .int o15.2.2.2.2.2.2.2.2.2.2.2.1, .int o15.2.2.2.2.2.2.2.2.2.2.2.2.1, .ref a0.2.2.2.2.2, .int o15.2.2.2.2.2.2.2.2.2.2.2.2.2.2]))], [(a0.2.1, .inl (cA, o15.2.1.1, .inl o15.2.1.2))], [(a0.2.2.1, .inl (cA, o15.2.2.1.1, .inl o15.2.2.1.2))], [(a0.2.2.2.1, .inl (cA, o15.2.2.2.2.2.1.1, .inl o15.2.2.2.2.2.1.2))], [(a0.2.2.2.2.1, .inl (cA, o15.2.2.2.2.2.2.2.2.1.1, .inl o15.2.2.2.2.2.2.2.2.1.2))], [(a0.2.2.2.2.2, .inl (cA, o15.2.2.2.2.2.2.2.2.2.2.2.2.2.1.1, .inl o15.2.2.2.2.2.2.2.2.2.2.2.2.2.1.2))]] H locs := hw
      refine lv_if_ne (tgt := 81) hx hb dX11_addPulsed_76 (by decide) (fun c16 => ?_) (fun c16 => ?_)
      · have hsp := iff_ c16 hsp
        refine lv_aload_n hx hb dX11_addPulsed_81 rfl (lv_at hl 0 rfl) ?_
        have hw : ww A s.heap D [w11 cA a0 o15.2] H locs := hw
        obtain ⟨o17, hso17, hsp⟩ := bnd_of hsp
        refine k_callV (ci := 11) (C := RX11) (T := TX11) (N := 14) (nA := 0) (As := []) (cs := [w11 cA a0 o15.2]) (rs := []) (cs1 := [w11 cA a0 o17]) (bs1 := [w11 cA a0 o17]) (rest := []) (st1 := []) ⟨hx, hb, hml, hown, hts⟩ hz hw hA (mX11_save l D cA cR N a0 o15.2 o17 hso17) gX11_addPulsed_X11_save rfl rfl rfl (by decide +kernel) rfl ⟨Nat.le_of_ble_eq_true rfl, Nat.le_of_ble_eq_true rfl⟩ rfl rfl hl.1 rfl (Nat.le_of_ble_eq_true rfl) dX11_addPulsed_82 ⟨Nat.le_of_ble_eq_true rfl, Nat.le_of_ble_eq_true rfl⟩ [0] [] [0] rfl rfl rfl rfl rfl rfl (fun H locs hw => ?_)
        have hw : ww A s.heap D [[(a0.1, .inr (11, [.ref a0.2.1, .ref a0.2.2.1, .int o17.2.2.1, .int o17.2.2.2.1, .ref a0.2.2.2.1, .int o17.2.2.2.2.2.1, .int o17.2.2.2.2.2.2.1, .ref a0.2.2.2.2.1, .int o17.2.2.2.2.2.2.2.2.1, .int o17.2.2.2.2.2.2.2.2.2.1, .int o17.2.2.2.2.2.2.2.2.2.2.1, .int o17.2.2.2.2.2.2.2.2.2.2.2.1, .ref a0.2.2.2.2.2, .int o17.2.2.2.2.2.2.2.2.2.2.2.2.2]))], [(a0.2.1, .inl (cA, o17.1.1, .inl o17.1.2))], [(a0.2.2.1, .inl (cA, o17.2.1.1, .inl o17.2.1.2))], [(a0.2.2.2.1, .inl (cA, o17.2.2.2.2.1.1, .inl o17.2.2.2.2.1.2))], [(a0.2.2.2.2.1, .inl (cA, o17.2.2.2.2.2.2.2.1.1, .inl o17.2.2.2.2.2.2.2.1.2))], [(a0.2.2.2.2.2, .inl (cA, o17.2.2.2.2.2.2.2.2.2.2.2.2.1.1, .inl o17.2.2.2.2.2.2.2.2.2.2.2.2.1.2))]] H locs := hw
        refine lv_aload_n hx hb dX11_addPulsed_85 rfl (lv_at hl 0 rfl) ?_
        refine lv_iconst (v := 0) hx hb dX11_addPulsed_86 (by decide) ?_
        refine lv_iload_n hx hb dX11_addPulsed_87 rfl (lv_at hl 1 rfl) ?_
        refine lv_iload_n hx hb dX11_addPulsed_88 rfl (lv_at hl 2 rfl) ?_
        refine lv_iload_n hx hb dX11_addPulsed_89 rfl (lv_at hl 3 rfl) ?_
        refine lv_iload hx hb dX11_addPulsed_90 (lv_at hl 4 rfl) ?_
        refine lv_iload hx hb dX11_addPulsed_92 (lv_at hl 5 rfl) ?_
        have hw : ww A s.heap D [w11 cA a0 o17] H locs := hw
        obtain ⟨o18, hso18, hsp⟩ := bnd_of hsp
        refine k_callV (ci := 11) (C := RX11) (T := TX11) (N := 14) (nA := 6) (As := [.int (0 : Int32), .int p1, .int p2, .int p3, .int p4, .int p5]) (cs := [w11 cA a0 o17]) (rs := []) (cs1 := [w11 cA a0 o18.2]) (bs1 := [w11 cA a0 o18.2]) (rest := []) (st1 := [.int o18.1]) ⟨hx, hb, hml, hown, hts⟩ hz hw hA (mX11_adds l D cA cR a0 o17 (0 : Int32) p1 p2 p3 p4 p5 o18 hso18) gX11_addPulsed_X11_adds rfl rfl rfl (by decide +kernel) rfl ⟨Nat.le_of_ble_eq_true rfl, Nat.le_of_ble_eq_true rfl⟩ rfl rfl hl.1 rfl (Nat.le_of_ble_eq_true rfl) dX11_addPulsed_94 ⟨Nat.le_of_ble_eq_true rfl, Nat.le_of_ble_eq_true rfl⟩ [0] [] [0] rfl rfl rfl rfl rfl rfl (fun H locs hw => ?_)
        have hw : ww A s.heap D [[(a0.1, .inr (11, [.ref a0.2.1, .ref a0.2.2.1, .int o18.2.2.2.1, .int o18.2.2.2.2.1, .ref a0.2.2.2.1, .int o18.2.2.2.2.2.2.1, .int o18.2.2.2.2.2.2.2.1, .ref a0.2.2.2.2.1, .int o18.2.2.2.2.2.2.2.2.2.1, .int o18.2.2.2.2.2.2.2.2.2.2.1, .int o18.2.2.2.2.2.2.2.2.2.2.2.1, .int o18.2.2.2.2.2.2.2.2.2.2.2.2.1, .ref a0.2.2.2.2.2, .int o18.2.2.2.2.2.2.2.2.2.2.2.2.2.2]))], [(a0.2.1, .inl (cA, o18.2.1.1, .inl o18.2.1.2))], [(a0.2.2.1, .inl (cA, o18.2.2.1.1, .inl o18.2.2.1.2))], [(a0.2.2.2.1, .inl (cA, o18.2.2.2.2.2.1.1, .inl o18.2.2.2.2.2.1.2))], [(a0.2.2.2.2.1, .inl (cA, o18.2.2.2.2.2.2.2.2.1.1, .inl o18.2.2.2.2.2.2.2.2.1.2))], [(a0.2.2.2.2.2, .inl (cA, o18.2.2.2.2.2.2.2.2.2.2.2.2.2.1.1, .inl o18.2.2.2.2.2.2.2.2.2.2.2.2.2.1.2))]] H locs := hw
        have hsp := Option.some.inj hsp
        subst hsp
        have hw : ww A s.heap D [w11 cA a0 o18.2] H locs := hw
        subst hQ
        exact k_iret hx hb hr hlk hw dX11_addPulsed_97
      · have hsp := ift c16 hsp
        refine lv_iconst (v := 0) hx hb dX11_addPulsed_79 (by decide) ?_
        have hsp := Option.some.inj hsp
        subst hsp
        have hw : ww A s.heap D [w11 cA a0 o15.2] H locs := hw
        subst hQ
        exact k_iret hx hb hr hlk hw dX11_addPulsed_80
    have hsp := hsj14
    refine lv_icmp_ge (tgt := 72) hx hb dX11_addPulsed_65 (by decide) (fun c19 => ?_) (fun c19 => ?_)
    · have hsp := ift c19 hsp
      refine lv_iconst (v := 0) hx hb dX11_addPulsed_72 (by decide) ?_
      have hsp := Option.some.inj hsp
      subst hsp
      exact Jj14 _ _ _ hw (lv_sub hl [1, 2, 3, 4, 5, 6, 0] rfl)
    · have hsp := iff_ c19 hsp
      refine lv_iconst (v := 1) hx hb dX11_addPulsed_68 (by decide) ?_
      refine lv_goto (tgt := 73) hx hb dX11_addPulsed_69 (by decide) ?_
      have hsp := Option.some.inj hsp
      subst hsp
      exact Jj14 _ _ _ hw (lv_sub hl [1, 2, 3, 4, 5, 6, 0] rfl)
  have hsp := hsj11
  refine lv_if_eq (tgt := 51) hx hb dX11_addPulsed_4 (by decide) (fun c20 => ?_) (fun c20 => ?_)
  · have hsp := ift c20 hsp
    refine lv_iconst (v := 0) hx hb dX11_addPulsed_51 (by decide) ?_
    have hsp := Option.some.inj hsp
    subst hsp
    exact Jj11 _ _ _ hw (lv_sub hl [0, 1, 2, 3, 4, 5] rfl)
  · have hsp := iff_ c20 hsp
    refine lv_iload_n hx hb dX11_addPulsed_7 rfl (lv_at hl 2 rfl) ?_
    obtain ⟨o21, hso21, hsp⟩ := bnd_of hsp
    refine k_callS (nA := 1) (As := [.int p2]) (cs := []) (rs := [[(a0.1, .inr (11, [.ref a0.2.1, .ref a0.2.2.1, .int v0.2.2.1, .int v0.2.2.2.1, .ref a0.2.2.2.1, .int v0.2.2.2.2.2.1, .int v0.2.2.2.2.2.2.1, .ref a0.2.2.2.2.1, .int v0.2.2.2.2.2.2.2.2.1, .int v0.2.2.2.2.2.2.2.2.2.1, .int v0.2.2.2.2.2.2.2.2.2.2.1, .int v0.2.2.2.2.2.2.2.2.2.2.2.1, .ref a0.2.2.2.2.2, .int v0.2.2.2.2.2.2.2.2.2.2.2.2.2]))], [(a0.2.1, .inl (cA, v0.1.1, .inl v0.1.2))], [(a0.2.2.1, .inl (cA, v0.2.1.1, .inl v0.2.1.2))], [(a0.2.2.2.1, .inl (cA, v0.2.2.2.2.1.1, .inl v0.2.2.2.2.1.2))], [(a0.2.2.2.2.1, .inl (cA, v0.2.2.2.2.2.2.2.1.1, .inl v0.2.2.2.2.2.2.2.1.2))], [(a0.2.2.2.2.2, .inl (cA, v0.2.2.2.2.2.2.2.2.2.2.2.2.1.1, .inl v0.2.2.2.2.2.2.2.2.2.2.2.2.1.2))]]) (cs1 := []) (bs1 := [[(a0.1, .inr (11, [.ref a0.2.1, .ref a0.2.2.1, .int v0.2.2.1, .int v0.2.2.2.1, .ref a0.2.2.2.1, .int v0.2.2.2.2.2.1, .int v0.2.2.2.2.2.2.1, .ref a0.2.2.2.2.1, .int v0.2.2.2.2.2.2.2.2.1, .int v0.2.2.2.2.2.2.2.2.2.1, .int v0.2.2.2.2.2.2.2.2.2.2.1, .int v0.2.2.2.2.2.2.2.2.2.2.2.1, .ref a0.2.2.2.2.2, .int v0.2.2.2.2.2.2.2.2.2.2.2.2.2]))], [(a0.2.1, .inl (cA, v0.1.1, .inl v0.1.2))], [(a0.2.2.1, .inl (cA, v0.2.1.1, .inl v0.2.1.2))], [(a0.2.2.2.1, .inl (cA, v0.2.2.2.2.1.1, .inl v0.2.2.2.2.1.2))], [(a0.2.2.2.2.1, .inl (cA, v0.2.2.2.2.2.2.2.1.1, .inl v0.2.2.2.2.2.2.2.1.2))], [(a0.2.2.2.2.2, .inl (cA, v0.2.2.2.2.2.2.2.2.2.2.2.2.1.1, .inl v0.2.2.2.2.2.2.2.2.2.2.2.2.1.2))]]) (rest := []) (st1 := [.int o21]) ⟨hx, hb, hml, hown, hts⟩ hz hw hA (mX11_isLevel l D cA cR p2 o21 hso21) gX11_addPulsed_X11_isLevel rfl rfl rfl (by decide +kernel) rfl ⟨Nat.le_of_ble_eq_true rfl, Nat.le_of_ble_eq_true rfl⟩ hl.1 rfl (Nat.le_of_ble_eq_true rfl) dX11_addPulsed_8 ⟨Nat.le_of_ble_eq_true rfl, Nat.le_of_ble_eq_true rfl⟩ [] [0, 1, 2, 3, 4, 5] [0, 1, 2, 3, 4, 5] rfl rfl rfl rfl rfl rfl (fun H locs hw => ?_)
    refine lv_if_eq (tgt := 51) hx hb dX11_addPulsed_11 (by decide) (fun c22 => ?_) (fun c22 => ?_)
    · have hsp := ift c22 hsp
      refine lv_iconst (v := 0) hx hb dX11_addPulsed_51 (by decide) ?_
      have hsp := Option.some.inj hsp
      subst hsp
      exact Jj11 _ _ _ hw (lv_sub hl [0, 1, 2, 3, 4, 5] rfl)
    · have hsp := iff_ c22 hsp
      refine lv_iload_n hx hb dX11_addPulsed_14 rfl (lv_at hl 3 rfl) ?_
      obtain ⟨o23, hso23, hsp⟩ := bnd_of hsp
      refine k_callS (nA := 1) (As := [.int p3]) (cs := []) (rs := [[(a0.1, .inr (11, [.ref a0.2.1, .ref a0.2.2.1, .int v0.2.2.1, .int v0.2.2.2.1, .ref a0.2.2.2.1, .int v0.2.2.2.2.2.1, .int v0.2.2.2.2.2.2.1, .ref a0.2.2.2.2.1, .int v0.2.2.2.2.2.2.2.2.1, .int v0.2.2.2.2.2.2.2.2.2.1, .int v0.2.2.2.2.2.2.2.2.2.2.1, .int v0.2.2.2.2.2.2.2.2.2.2.2.1, .ref a0.2.2.2.2.2, .int v0.2.2.2.2.2.2.2.2.2.2.2.2.2]))], [(a0.2.1, .inl (cA, v0.1.1, .inl v0.1.2))], [(a0.2.2.1, .inl (cA, v0.2.1.1, .inl v0.2.1.2))], [(a0.2.2.2.1, .inl (cA, v0.2.2.2.2.1.1, .inl v0.2.2.2.2.1.2))], [(a0.2.2.2.2.1, .inl (cA, v0.2.2.2.2.2.2.2.1.1, .inl v0.2.2.2.2.2.2.2.1.2))], [(a0.2.2.2.2.2, .inl (cA, v0.2.2.2.2.2.2.2.2.2.2.2.2.1.1, .inl v0.2.2.2.2.2.2.2.2.2.2.2.2.1.2))]]) (cs1 := []) (bs1 := [[(a0.1, .inr (11, [.ref a0.2.1, .ref a0.2.2.1, .int v0.2.2.1, .int v0.2.2.2.1, .ref a0.2.2.2.1, .int v0.2.2.2.2.2.1, .int v0.2.2.2.2.2.2.1, .ref a0.2.2.2.2.1, .int v0.2.2.2.2.2.2.2.2.1, .int v0.2.2.2.2.2.2.2.2.2.1, .int v0.2.2.2.2.2.2.2.2.2.2.1, .int v0.2.2.2.2.2.2.2.2.2.2.2.1, .ref a0.2.2.2.2.2, .int v0.2.2.2.2.2.2.2.2.2.2.2.2.2]))], [(a0.2.1, .inl (cA, v0.1.1, .inl v0.1.2))], [(a0.2.2.1, .inl (cA, v0.2.1.1, .inl v0.2.1.2))], [(a0.2.2.2.1, .inl (cA, v0.2.2.2.2.1.1, .inl v0.2.2.2.2.1.2))], [(a0.2.2.2.2.1, .inl (cA, v0.2.2.2.2.2.2.2.1.1, .inl v0.2.2.2.2.2.2.2.1.2))], [(a0.2.2.2.2.2, .inl (cA, v0.2.2.2.2.2.2.2.2.2.2.2.2.1.1, .inl v0.2.2.2.2.2.2.2.2.2.2.2.2.1.2))]]) (rest := []) (st1 := [.int o23]) ⟨hx, hb, hml, hown, hts⟩ hz hw hA (mX11_isStart l D cA cR p3 o23 hso23) gX11_addPulsed_X11_isStart rfl rfl rfl (by decide +kernel) rfl ⟨Nat.le_of_ble_eq_true rfl, Nat.le_of_ble_eq_true rfl⟩ hl.1 rfl (Nat.le_of_ble_eq_true rfl) dX11_addPulsed_15 ⟨Nat.le_of_ble_eq_true rfl, Nat.le_of_ble_eq_true rfl⟩ [] [0, 1, 2, 3, 4, 5] [0, 1, 2, 3, 4, 5] rfl rfl rfl rfl rfl rfl (fun H locs hw => ?_)
      refine lv_if_eq (tgt := 51) hx hb dX11_addPulsed_18 (by decide) (fun c24 => ?_) (fun c24 => ?_)
      · have hsp := ift c24 hsp
        refine lv_iconst (v := 0) hx hb dX11_addPulsed_51 (by decide) ?_
        have hsp := Option.some.inj hsp
        subst hsp
        exact Jj11 _ _ _ hw (lv_sub hl [0, 1, 2, 3, 4, 5] rfl)
      · have hsp := iff_ c24 hsp
        refine lv_iload hx hb dX11_addPulsed_21 (lv_at hl 5 rfl) ?_
        refine lv_i2l hx hb dX11_addPulsed_23 rfl ?_
        refine lv_lconst (v := 1) hx hb dX11_addPulsed_24 (by decide) ?_
        refine lv_ldc2 hx hb hown (hts (.constantLong RX11 55 1000) (by decide +kernel)) dX11_addPulsed_25 ?_
        obtain ⟨o25, hso25, hsp⟩ := bnd_of hsp
        refine k_callS (nA := 3) (As := [.long p5.toInt64, .long (1 : Int64), .long (1000 : Int64)]) (cs := []) (rs := [[(a0.1, .inr (11, [.ref a0.2.1, .ref a0.2.2.1, .int v0.2.2.1, .int v0.2.2.2.1, .ref a0.2.2.2.1, .int v0.2.2.2.2.2.1, .int v0.2.2.2.2.2.2.1, .ref a0.2.2.2.2.1, .int v0.2.2.2.2.2.2.2.2.1, .int v0.2.2.2.2.2.2.2.2.2.1, .int v0.2.2.2.2.2.2.2.2.2.2.1, .int v0.2.2.2.2.2.2.2.2.2.2.2.1, .ref a0.2.2.2.2.2, .int v0.2.2.2.2.2.2.2.2.2.2.2.2.2]))], [(a0.2.1, .inl (cA, v0.1.1, .inl v0.1.2))], [(a0.2.2.1, .inl (cA, v0.2.1.1, .inl v0.2.1.2))], [(a0.2.2.2.1, .inl (cA, v0.2.2.2.2.1.1, .inl v0.2.2.2.2.1.2))], [(a0.2.2.2.2.1, .inl (cA, v0.2.2.2.2.2.2.2.1.1, .inl v0.2.2.2.2.2.2.2.1.2))], [(a0.2.2.2.2.2, .inl (cA, v0.2.2.2.2.2.2.2.2.2.2.2.2.1.1, .inl v0.2.2.2.2.2.2.2.2.2.2.2.2.1.2))]]) (cs1 := []) (bs1 := [[(a0.1, .inr (11, [.ref a0.2.1, .ref a0.2.2.1, .int v0.2.2.1, .int v0.2.2.2.1, .ref a0.2.2.2.1, .int v0.2.2.2.2.2.1, .int v0.2.2.2.2.2.2.1, .ref a0.2.2.2.2.1, .int v0.2.2.2.2.2.2.2.2.1, .int v0.2.2.2.2.2.2.2.2.2.1, .int v0.2.2.2.2.2.2.2.2.2.2.1, .int v0.2.2.2.2.2.2.2.2.2.2.2.1, .ref a0.2.2.2.2.2, .int v0.2.2.2.2.2.2.2.2.2.2.2.2.2]))], [(a0.2.1, .inl (cA, v0.1.1, .inl v0.1.2))], [(a0.2.2.1, .inl (cA, v0.2.1.1, .inl v0.2.1.2))], [(a0.2.2.2.1, .inl (cA, v0.2.2.2.2.1.1, .inl v0.2.2.2.2.1.2))], [(a0.2.2.2.2.1, .inl (cA, v0.2.2.2.2.2.2.2.1.1, .inl v0.2.2.2.2.2.2.2.1.2))], [(a0.2.2.2.2.2, .inl (cA, v0.2.2.2.2.2.2.2.2.2.2.2.2.1.1, .inl v0.2.2.2.2.2.2.2.2.2.2.2.2.1.2))]]) (rest := []) (st1 := [.int o25]) ⟨hx, hb, hml, hown, hts⟩ hz hw hA (mX11_in l D cA cR p5.toInt64 (1 : Int64) (1000 : Int64) o25 hso25) gX11_addPulsed_X11_in rfl rfl rfl (by decide +kernel) rfl ⟨Nat.le_of_ble_eq_true rfl, Nat.le_of_ble_eq_true rfl⟩ hl.1 rfl (Nat.le_of_ble_eq_true rfl) dX11_addPulsed_28 ⟨Nat.le_of_ble_eq_true rfl, Nat.le_of_ble_eq_true rfl⟩ [] [0, 1, 2, 3, 4, 5] [0, 1, 2, 3, 4, 5] rfl rfl rfl rfl rfl rfl (fun H locs hw => ?_)
        refine lv_if_eq (tgt := 51) hx hb dX11_addPulsed_31 (by decide) (fun c26 => ?_) (fun c26 => ?_)
        · have hsp := ift c26 hsp
          refine lv_iconst (v := 0) hx hb dX11_addPulsed_51 (by decide) ?_
          have hsp := Option.some.inj hsp
          subst hsp
          exact Jj11 _ _ _ hw (lv_sub hl [0, 1, 2, 3, 4, 5] rfl)
        · have hsp := iff_ c26 hsp
          refine lv_iload hx hb dX11_addPulsed_34 (lv_at hl 4 rfl) ?_
          refine lv_i2l hx hb dX11_addPulsed_36 rfl ?_
          refine lv_lconst (v := 1) hx hb dX11_addPulsed_37 (by decide) ?_
          refine lv_iload hx hb dX11_addPulsed_38 (lv_at hl 5 rfl) ?_
          refine lv_i2l hx hb dX11_addPulsed_40 rfl ?_
          obtain ⟨o27, hso27, hsp⟩ := bnd_of hsp
          refine k_callS (nA := 3) (As := [.long p4.toInt64, .long (1 : Int64), .long p5.toInt64]) (cs := []) (rs := [[(a0.1, .inr (11, [.ref a0.2.1, .ref a0.2.2.1, .int v0.2.2.1, .int v0.2.2.2.1, .ref a0.2.2.2.1, .int v0.2.2.2.2.2.1, .int v0.2.2.2.2.2.2.1, .ref a0.2.2.2.2.1, .int v0.2.2.2.2.2.2.2.2.1, .int v0.2.2.2.2.2.2.2.2.2.1, .int v0.2.2.2.2.2.2.2.2.2.2.1, .int v0.2.2.2.2.2.2.2.2.2.2.2.1, .ref a0.2.2.2.2.2, .int v0.2.2.2.2.2.2.2.2.2.2.2.2.2]))], [(a0.2.1, .inl (cA, v0.1.1, .inl v0.1.2))], [(a0.2.2.1, .inl (cA, v0.2.1.1, .inl v0.2.1.2))], [(a0.2.2.2.1, .inl (cA, v0.2.2.2.2.1.1, .inl v0.2.2.2.2.1.2))], [(a0.2.2.2.2.1, .inl (cA, v0.2.2.2.2.2.2.2.1.1, .inl v0.2.2.2.2.2.2.2.1.2))], [(a0.2.2.2.2.2, .inl (cA, v0.2.2.2.2.2.2.2.2.2.2.2.2.1.1, .inl v0.2.2.2.2.2.2.2.2.2.2.2.2.1.2))]]) (cs1 := []) (bs1 := [[(a0.1, .inr (11, [.ref a0.2.1, .ref a0.2.2.1, .int v0.2.2.1, .int v0.2.2.2.1, .ref a0.2.2.2.1, .int v0.2.2.2.2.2.1, .int v0.2.2.2.2.2.2.1, .ref a0.2.2.2.2.1, .int v0.2.2.2.2.2.2.2.2.1, .int v0.2.2.2.2.2.2.2.2.2.1, .int v0.2.2.2.2.2.2.2.2.2.2.1, .int v0.2.2.2.2.2.2.2.2.2.2.2.1, .ref a0.2.2.2.2.2, .int v0.2.2.2.2.2.2.2.2.2.2.2.2.2]))], [(a0.2.1, .inl (cA, v0.1.1, .inl v0.1.2))], [(a0.2.2.1, .inl (cA, v0.2.1.1, .inl v0.2.1.2))], [(a0.2.2.2.1, .inl (cA, v0.2.2.2.2.1.1, .inl v0.2.2.2.2.1.2))], [(a0.2.2.2.2.1, .inl (cA, v0.2.2.2.2.2.2.2.1.1, .inl v0.2.2.2.2.2.2.2.1.2))], [(a0.2.2.2.2.2, .inl (cA, v0.2.2.2.2.2.2.2.2.2.2.2.2.1.1, .inl v0.2.2.2.2.2.2.2.2.2.2.2.2.1.2))]]) (rest := []) (st1 := [.int o27]) ⟨hx, hb, hml, hown, hts⟩ hz hw hA (mX11_in l D cA cR p4.toInt64 (1 : Int64) p5.toInt64 o27 hso27) gX11_addPulsed_X11_in rfl rfl rfl (by decide +kernel) rfl ⟨Nat.le_of_ble_eq_true rfl, Nat.le_of_ble_eq_true rfl⟩ hl.1 rfl (Nat.le_of_ble_eq_true rfl) dX11_addPulsed_41 ⟨Nat.le_of_ble_eq_true rfl, Nat.le_of_ble_eq_true rfl⟩ [] [0, 1, 2, 3, 4, 5] [0, 1, 2, 3, 4, 5] rfl rfl rfl rfl rfl rfl (fun H locs hw => ?_)
          refine lv_if_eq (tgt := 51) hx hb dX11_addPulsed_44 (by decide) (fun c28 => ?_) (fun c28 => ?_)
          · have hsp := ift c28 hsp
            refine lv_iconst (v := 0) hx hb dX11_addPulsed_51 (by decide) ?_
            have hsp := Option.some.inj hsp
            subst hsp
            exact Jj11 _ _ _ hw (lv_sub hl [0, 1, 2, 3, 4, 5] rfl)
          · have hsp := iff_ c28 hsp
            refine lv_iconst (v := 1) hx hb dX11_addPulsed_47 (by decide) ?_
            refine lv_goto (tgt := 52) hx hb dX11_addPulsed_48 (by decide) ?_
            have hsp := Option.some.inj hsp
            subst hsp
            exact Jj11 _ _ _ hw (lv_sub hl [0, 1, 2, 3, 4, 5] rfl)
noncomputable def sX11_addHopping (N : Nat) (v0 : V11) (p1 : Int32) (p2 : Int32) (p3 : Int32) (p4 : Int32) (p5 : Int32) : Option (Int32 × V11) := ((sX11_isChannel p1).bind (fun o1 => (((if o1 = 0 then (some (0 : Int32)) else ((sX11_in p2.toInt64 (1 : Int64) (31 : Int64)).bind (fun o21 => (if o21 = 0 then (some (0 : Int32)) else ((sX11_in p3.toInt64 (1 : Int64) (1000 : Int64)).bind (fun o23 => (if o23 = 0 then (some (0 : Int32)) else ((sX11_isLevel p4).bind (fun o25 => (if o25 = 0 then (some (0 : Int32)) else ((sX11_isStart p5).bind (fun o27 => (if o27 = 0 then (some (0 : Int32)) else (some (1 : Int32))))))))))))))) : Option (Int32)).bind (fun j11 => (grd (vp_in (5 : Int32) v0.1.1) (((if (10 : Int32) ≤ (v0.1.2 (5 : Int32).toNatClampNeg) then (some (0 : Int32)) else (some (1 : Int32))) : Option (Int32)).bind (fun j14 => ((sX11_goes v0 j11 j14).bind (fun o15 => (if o15.1 = 0 then (some ((0 : Int32), o15.2)) else ((sX11_save N o15.2).bind (fun o17 => ((sX11_adds o17 (1 : Int32) p1 p2 p3 p4 p5).bind (fun o18 => (some (o18.1, o18.2))))))))))))))))
abbrev rX11_addHopping : Room := { frames := 2, cells := 0, slots := 0, locals := 45 }
set_option maxHeartbeats 4000000 in
set_option maxRecDepth 100000 in
theorem mX11_addHopping (l : Launch) (D : va_G) (cA cR : ClassId) (N : Nat) (a0 : A11) (v0 : V11) (p1 : Int32) (p2 : Int32) (p3 : Int32) (p4 : Int32) (p5 : Int32) (o : Int32 × V11) (hsp : sX11_addHopping N v0 p1 p2 p3 p4 p5 = some o) : MI l yX11_addHopping wsX11_addHopping rX11_addHopping D cA cR [.ref a0.1, .int p1, .int p2, .int p3, .int p4, .int p5] [w11 cA a0 v0] (some (.int o.1)) [w11 cA a0 o.2] 0 0 := by
  have hsp : ((sX11_isChannel p1).bind (fun o1 => (((if o1 = 0 then (some (0 : Int32)) else ((sX11_in p2.toInt64 (1 : Int64) (31 : Int64)).bind (fun o21 => (if o21 = 0 then (some (0 : Int32)) else ((sX11_in p3.toInt64 (1 : Int64) (1000 : Int64)).bind (fun o23 => (if o23 = 0 then (some (0 : Int32)) else ((sX11_isLevel p4).bind (fun o25 => (if o25 = 0 then (some (0 : Int32)) else ((sX11_isStart p5).bind (fun o27 => (if o27 = 0 then (some (0 : Int32)) else (some (1 : Int32))))))))))))))) : Option (Int32)).bind (fun j11 => (grd (vp_in (5 : Int32) v0.1.1) (((if (10 : Int32) ≤ (v0.1.2 (5 : Int32).toNatClampNeg) then (some (0 : Int32)) else (some (1 : Int32))) : Option (Int32)).bind (fun j14 => ((sX11_goes v0 j11 j14).bind (fun o15 => (if o15.1 = 0 then (some ((0 : Int32), o15.2)) else ((sX11_save N o15.2).bind (fun o17 => ((sX11_adds o17 (1 : Int32) p1 p2 p3 p4 p5).bind (fun o18 => (some (o18.1, o18.2)))))))))))))))) = some o := hsp
  refine MI.ofW (cc := cX11_addHopping) (maxL := 7) (ret := (some .int)) (by decide) rfl (Nat.le_of_ble_eq_true rfl) ?_
  intro p e s m args below meth c A ls Q H locs hx hb hr hlk hml hown hnm hts hz hA hQ hw hl
  have hl : lv_has ls 7 [(0, .ref a0.1), (1, .int p1), (2, .int p2), (3, .int p3), (4, .int p4), (5, .int p5)] := hl
  have hw : ww A s.heap D [[(a0.1, .inr (11, [.ref a0.2.1, .ref a0.2.2.1, .int v0.2.2.1, .int v0.2.2.2.1, .ref a0.2.2.2.1, .int v0.2.2.2.2.2.1, .int v0.2.2.2.2.2.2.1, .ref a0.2.2.2.2.1, .int v0.2.2.2.2.2.2.2.2.1, .int v0.2.2.2.2.2.2.2.2.2.1, .int v0.2.2.2.2.2.2.2.2.2.2.1, .int v0.2.2.2.2.2.2.2.2.2.2.2.1, .ref a0.2.2.2.2.2, .int v0.2.2.2.2.2.2.2.2.2.2.2.2.2]))], [(a0.2.1, .inl (cA, v0.1.1, .inl v0.1.2))], [(a0.2.2.1, .inl (cA, v0.2.1.1, .inl v0.2.1.2))], [(a0.2.2.2.1, .inl (cA, v0.2.2.2.2.1.1, .inl v0.2.2.2.2.1.2))], [(a0.2.2.2.2.1, .inl (cA, v0.2.2.2.2.2.2.2.1.1, .inl v0.2.2.2.2.2.2.2.1.2))], [(a0.2.2.2.2.2, .inl (cA, v0.2.2.2.2.2.2.2.2.2.2.2.2.1.1, .inl v0.2.2.2.2.2.2.2.2.2.2.2.2.1.2))]] H locs := hw
  refine lv_iload_n hx hb dX11_addHopping_0 rfl (lv_at hl 1 rfl) ?_
  obtain ⟨o1, hso1, hsp⟩ := bnd_of hsp
  refine k_callS (nA := 1) (As := [.int p1]) (cs := []) (rs := [[(a0.1, .inr (11, [.ref a0.2.1, .ref a0.2.2.1, .int v0.2.2.1, .int v0.2.2.2.1, .ref a0.2.2.2.1, .int v0.2.2.2.2.2.1, .int v0.2.2.2.2.2.2.1, .ref a0.2.2.2.2.1, .int v0.2.2.2.2.2.2.2.2.1, .int v0.2.2.2.2.2.2.2.2.2.1, .int v0.2.2.2.2.2.2.2.2.2.2.1, .int v0.2.2.2.2.2.2.2.2.2.2.2.1, .ref a0.2.2.2.2.2, .int v0.2.2.2.2.2.2.2.2.2.2.2.2.2]))], [(a0.2.1, .inl (cA, v0.1.1, .inl v0.1.2))], [(a0.2.2.1, .inl (cA, v0.2.1.1, .inl v0.2.1.2))], [(a0.2.2.2.1, .inl (cA, v0.2.2.2.2.1.1, .inl v0.2.2.2.2.1.2))], [(a0.2.2.2.2.1, .inl (cA, v0.2.2.2.2.2.2.2.1.1, .inl v0.2.2.2.2.2.2.2.1.2))], [(a0.2.2.2.2.2, .inl (cA, v0.2.2.2.2.2.2.2.2.2.2.2.2.1.1, .inl v0.2.2.2.2.2.2.2.2.2.2.2.2.1.2))]]) (cs1 := []) (bs1 := [[(a0.1, .inr (11, [.ref a0.2.1, .ref a0.2.2.1, .int v0.2.2.1, .int v0.2.2.2.1, .ref a0.2.2.2.1, .int v0.2.2.2.2.2.1, .int v0.2.2.2.2.2.2.1, .ref a0.2.2.2.2.1, .int v0.2.2.2.2.2.2.2.2.1, .int v0.2.2.2.2.2.2.2.2.2.1, .int v0.2.2.2.2.2.2.2.2.2.2.1, .int v0.2.2.2.2.2.2.2.2.2.2.2.1, .ref a0.2.2.2.2.2, .int v0.2.2.2.2.2.2.2.2.2.2.2.2.2]))], [(a0.2.1, .inl (cA, v0.1.1, .inl v0.1.2))], [(a0.2.2.1, .inl (cA, v0.2.1.1, .inl v0.2.1.2))], [(a0.2.2.2.1, .inl (cA, v0.2.2.2.2.1.1, .inl v0.2.2.2.2.1.2))], [(a0.2.2.2.2.1, .inl (cA, v0.2.2.2.2.2.2.2.1.1, .inl v0.2.2.2.2.2.2.2.1.2))], [(a0.2.2.2.2.2, .inl (cA, v0.2.2.2.2.2.2.2.2.2.2.2.2.1.1, .inl v0.2.2.2.2.2.2.2.2.2.2.2.2.1.2))]]) (rest := []) (st1 := [.int o1]) ⟨hx, hb, hml, hown, hts⟩ hz hw hA (mX11_isChannel l D cA cR p1 o1 hso1) gX11_addHopping_X11_isChannel rfl rfl rfl (by decide +kernel) rfl ⟨Nat.le_of_ble_eq_true rfl, Nat.le_of_ble_eq_true rfl⟩ hl.1 rfl (Nat.le_of_ble_eq_true rfl) dX11_addHopping_1 ⟨Nat.le_of_ble_eq_true rfl, Nat.le_of_ble_eq_true rfl⟩ [] [0, 1, 2, 3, 4, 5] [0, 1, 2, 3, 4, 5] rfl rfl rfl rfl rfl rfl (fun H locs hw => ?_)
  obtain ⟨j11, hsj11, hkj11⟩ := bnd_of hsp
  have Jj11 : ∀ (H : Heap) (locs : List Loc) (ls : Array Slot), ww A s.heap D [[(a0.1, .inr (11, [.ref a0.2.1, .ref a0.2.2.1, .int v0.2.2.1, .int v0.2.2.2.1, .ref a0.2.2.2.1, .int v0.2.2.2.2.2.1, .int v0.2.2.2.2.2.2.1, .ref a0.2.2.2.2.1, .int v0.2.2.2.2.2.2.2.2.1, .int v0.2.2.2.2.2.2.2.2.2.1, .int v0.2.2.2.2.2.2.2.2.2.2.1, .int v0.2.2.2.2.2.2.2.2.2.2.2.1, .ref a0.2.2.2.2.2, .int v0.2.2.2.2.2.2.2.2.2.2.2.2.2]))], [(a0.2.1, .inl (cA, v0.1.1, .inl v0.1.2))], [(a0.2.2.1, .inl (cA, v0.2.1.1, .inl v0.2.1.2))], [(a0.2.2.2.1, .inl (cA, v0.2.2.2.2.1.1, .inl v0.2.2.2.2.1.2))], [(a0.2.2.2.2.1, .inl (cA, v0.2.2.2.2.2.2.2.1.1, .inl v0.2.2.2.2.2.2.2.1.2))], [(a0.2.2.2.2.2, .inl (cA, v0.2.2.2.2.2.2.2.2.2.2.2.2.1.1, .inl v0.2.2.2.2.2.2.2.2.2.2.2.2.1.2))]] H locs → lv_has ls 7 [(0, .ref a0.1), (1, .int p1), (2, .int p2), (3, .int p3), (4, .int p4), (5, .int p5)] → W p l e rX11_addHopping s m args below meth c H locs 0 0 Q (F0 m 52 ls [.int j11]) := by
    intro H locs ls hw hl
    have hsp := hkj11
    refine lv_istore (lv' := [(6, .int j11), (0, .ref a0.1), (1, .int p1), (2, .int p2), (3, .int p3), (4, .int p4), (5, .int p5)]) hx hb dX11_addHopping_52 hl (by decide) rfl (fun ls hl => ?_)
    refine lv_aload_n hx hb dX11_addHopping_54 rfl (lv_at hl 1 rfl) ?_
    refine lv_iload hx hb dX11_addHopping_55 (lv_at hl 0 rfl) ?_
    refine lv_aload_n hx hb dX11_addHopping_57 rfl (lv_at hl 1 rfl) ?_
    refine k_get (ci := 11) (v := .ref a0.2.1) (C := RX11) (T := TX11) (N := 14) hx hb hts hown hz hw (by decide +kernel) 0 rfl rfl 0 (by decide) (hts (.fieldLink RX11 7 "OccupancyMonitorModel" "all" "[I") (by decide +kernel)) (fun _ h9 => h9) rfl dX11_addHopping_58 ?_
    refine lv_iconst (v := 5) hx hb dX11_addHopping_61 (by decide) ?_
    obtain ⟨g12, hsp⟩ := grd_of hsp
    refine k_iald hx hb hz hw 1 rfl g12 dX11_addHopping_62 ?_
    refine lv_bipush (v := 10) hx hb dX11_addHopping_63 (by decide) ?_
    obtain ⟨j14, hsj14, hkj14⟩ := bnd_of hsp
    have Jj14 : ∀ (H : Heap) (locs : List Loc) (ls : Array Slot), ww A s.heap D [[(a0.1, .inr (11, [.ref a0.2.1, .ref a0.2.2.1, .int v0.2.2.1, .int v0.2.2.2.1, .ref a0.2.2.2.1, .int v0.2.2.2.2.2.1, .int v0.2.2.2.2.2.2.1, .ref a0.2.2.2.2.1, .int v0.2.2.2.2.2.2.2.2.1, .int v0.2.2.2.2.2.2.2.2.2.1, .int v0.2.2.2.2.2.2.2.2.2.2.1, .int v0.2.2.2.2.2.2.2.2.2.2.2.1, .ref a0.2.2.2.2.2, .int v0.2.2.2.2.2.2.2.2.2.2.2.2.2]))], [(a0.2.1, .inl (cA, v0.1.1, .inl v0.1.2))], [(a0.2.2.1, .inl (cA, v0.2.1.1, .inl v0.2.1.2))], [(a0.2.2.2.1, .inl (cA, v0.2.2.2.2.1.1, .inl v0.2.2.2.2.1.2))], [(a0.2.2.2.2.1, .inl (cA, v0.2.2.2.2.2.2.2.1.1, .inl v0.2.2.2.2.2.2.2.1.2))], [(a0.2.2.2.2.2, .inl (cA, v0.2.2.2.2.2.2.2.2.2.2.2.2.1.1, .inl v0.2.2.2.2.2.2.2.2.2.2.2.2.1.2))]] H locs → lv_has ls 7 [(0, .ref a0.1), (1, .int p1), (2, .int p2), (3, .int p3), (4, .int p4), (5, .int p5), (6, .int j11)] → W p l e rX11_addHopping s m args below meth c H locs 0 0 Q (F0 m 73 ls [.int j14, .int j11, .ref a0.1]) := by
      intro H locs ls hw hl
      have hsp := hkj14
      have hw : ww A s.heap D [w11 cA a0 v0] H locs := hw
      obtain ⟨o15, hso15, hsp⟩ := bnd_of hsp
      refine k_callV (ci := 11) (C := RX11) (T := TX11) (N := 14) (nA := 2) (As := [.int j11, .int j14]) (cs := [w11 cA a0 v0]) (rs := []) (cs1 := [w11 cA a0 o15.2]) (bs1 := [w11 cA a0 o15.2]) (rest := []) (st1 := [.int o15.1]) ⟨hx, hb, hml, hown, hts⟩ hz hw hA (mX11_goes l D cA cR a0 v0 j11 j14 o15 hso15) gX11_addHopping_X11_goes rfl rfl rfl (by decide +kernel) rfl ⟨Nat.le_of_ble_eq_true rfl, Nat.le_of_ble_eq_true rfl⟩ rfl rfl hl.1 rfl (Nat.le_of_ble_eq_true rfl) dX11_addHopping_73 ⟨Nat.le_of_ble_eq_true rfl, Nat.le_of_ble_eq_true rfl⟩ [0] [] [0] rfl rfl rfl rfl rfl rfl (fun H locs hw => ?_)
      have hw : ww A s.heap D [[(a0.1, .inr (11, [.ref a0.2.1, .ref a0.2.2.1, .int o15.2.2.2.1, .int o15.2.2.2.2.1, .ref a0.2.2.2.1, .int o15.2.2.2.2.2.2.1, .int o15.2.2.2.2.2.2.2.1, .ref a0.2.2.2.2.1, .int o15.2.2.2.2.2.2.2.2.2.1, .int o15.2.2.2.2.2.2.2.2.2.2.1, .int o15.2.2.2.2.2.2.2.2.2.2.2.1, .int o15.2.2.2.2.2.2.2.2.2.2.2.2.1, .ref a0.2.2.2.2.2, .int o15.2.2.2.2.2.2.2.2.2.2.2.2.2.2]))], [(a0.2.1, .inl (cA, o15.2.1.1, .inl o15.2.1.2))], [(a0.2.2.1, .inl (cA, o15.2.2.1.1, .inl o15.2.2.1.2))], [(a0.2.2.2.1, .inl (cA, o15.2.2.2.2.2.1.1, .inl o15.2.2.2.2.2.1.2))], [(a0.2.2.2.2.1, .inl (cA, o15.2.2.2.2.2.2.2.2.1.1, .inl o15.2.2.2.2.2.2.2.2.1.2))], [(a0.2.2.2.2.2, .inl (cA, o15.2.2.2.2.2.2.2.2.2.2.2.2.2.1.1, .inl o15.2.2.2.2.2.2.2.2.2.2.2.2.2.1.2))]] H locs := hw
      refine lv_if_ne (tgt := 81) hx hb dX11_addHopping_76 (by decide) (fun c16 => ?_) (fun c16 => ?_)
      · have hsp := iff_ c16 hsp
        refine lv_aload_n hx hb dX11_addHopping_81 rfl (lv_at hl 0 rfl) ?_
        have hw : ww A s.heap D [w11 cA a0 o15.2] H locs := hw
        obtain ⟨o17, hso17, hsp⟩ := bnd_of hsp
        refine k_callV (ci := 11) (C := RX11) (T := TX11) (N := 14) (nA := 0) (As := []) (cs := [w11 cA a0 o15.2]) (rs := []) (cs1 := [w11 cA a0 o17]) (bs1 := [w11 cA a0 o17]) (rest := []) (st1 := []) ⟨hx, hb, hml, hown, hts⟩ hz hw hA (mX11_save l D cA cR N a0 o15.2 o17 hso17) gX11_addHopping_X11_save rfl rfl rfl (by decide +kernel) rfl ⟨Nat.le_of_ble_eq_true rfl, Nat.le_of_ble_eq_true rfl⟩ rfl rfl hl.1 rfl (Nat.le_of_ble_eq_true rfl) dX11_addHopping_82 ⟨Nat.le_of_ble_eq_true rfl, Nat.le_of_ble_eq_true rfl⟩ [0] [] [0] rfl rfl rfl rfl rfl rfl (fun H locs hw => ?_)
        have hw : ww A s.heap D [[(a0.1, .inr (11, [.ref a0.2.1, .ref a0.2.2.1, .int o17.2.2.1, .int o17.2.2.2.1, .ref a0.2.2.2.1, .int o17.2.2.2.2.2.1, .int o17.2.2.2.2.2.2.1, .ref a0.2.2.2.2.1, .int o17.2.2.2.2.2.2.2.2.1, .int o17.2.2.2.2.2.2.2.2.2.1, .int o17.2.2.2.2.2.2.2.2.2.2.1, .int o17.2.2.2.2.2.2.2.2.2.2.2.1, .ref a0.2.2.2.2.2, .int o17.2.2.2.2.2.2.2.2.2.2.2.2.2]))], [(a0.2.1, .inl (cA, o17.1.1, .inl o17.1.2))], [(a0.2.2.1, .inl (cA, o17.2.1.1, .inl o17.2.1.2))], [(a0.2.2.2.1, .inl (cA, o17.2.2.2.2.1.1, .inl o17.2.2.2.2.1.2))], [(a0.2.2.2.2.1, .inl (cA, o17.2.2.2.2.2.2.2.1.1, .inl o17.2.2.2.2.2.2.2.1.2))], [(a0.2.2.2.2.2, .inl (cA, o17.2.2.2.2.2.2.2.2.2.2.2.2.1.1, .inl o17.2.2.2.2.2.2.2.2.2.2.2.2.1.2))]] H locs := hw
        refine lv_aload_n hx hb dX11_addHopping_85 rfl (lv_at hl 0 rfl) ?_
        refine lv_iconst (v := 1) hx hb dX11_addHopping_86 (by decide) ?_
        refine lv_iload_n hx hb dX11_addHopping_87 rfl (lv_at hl 1 rfl) ?_
        refine lv_iload_n hx hb dX11_addHopping_88 rfl (lv_at hl 2 rfl) ?_
        refine lv_iload_n hx hb dX11_addHopping_89 rfl (lv_at hl 3 rfl) ?_
        refine lv_iload hx hb dX11_addHopping_90 (lv_at hl 4 rfl) ?_
        refine lv_iload hx hb dX11_addHopping_92 (lv_at hl 5 rfl) ?_
        have hw : ww A s.heap D [w11 cA a0 o17] H locs := hw
        obtain ⟨o18, hso18, hsp⟩ := bnd_of hsp
        refine k_callV (ci := 11) (C := RX11) (T := TX11) (N := 14) (nA := 6) (As := [.int (1 : Int32), .int p1, .int p2, .int p3, .int p4, .int p5]) (cs := [w11 cA a0 o17]) (rs := []) (cs1 := [w11 cA a0 o18.2]) (bs1 := [w11 cA a0 o18.2]) (rest := []) (st1 := [.int o18.1]) ⟨hx, hb, hml, hown, hts⟩ hz hw hA (mX11_adds l D cA cR a0 o17 (1 : Int32) p1 p2 p3 p4 p5 o18 hso18) gX11_addHopping_X11_adds rfl rfl rfl (by decide +kernel) rfl ⟨Nat.le_of_ble_eq_true rfl, Nat.le_of_ble_eq_true rfl⟩ rfl rfl hl.1 rfl (Nat.le_of_ble_eq_true rfl) dX11_addHopping_94 ⟨Nat.le_of_ble_eq_true rfl, Nat.le_of_ble_eq_true rfl⟩ [0] [] [0] rfl rfl rfl rfl rfl rfl (fun H locs hw => ?_)
        have hw : ww A s.heap D [[(a0.1, .inr (11, [.ref a0.2.1, .ref a0.2.2.1, .int o18.2.2.2.1, .int o18.2.2.2.2.1, .ref a0.2.2.2.1, .int o18.2.2.2.2.2.2.1, .int o18.2.2.2.2.2.2.2.1, .ref a0.2.2.2.2.1, .int o18.2.2.2.2.2.2.2.2.2.1, .int o18.2.2.2.2.2.2.2.2.2.2.1, .int o18.2.2.2.2.2.2.2.2.2.2.2.1, .int o18.2.2.2.2.2.2.2.2.2.2.2.2.1, .ref a0.2.2.2.2.2, .int o18.2.2.2.2.2.2.2.2.2.2.2.2.2.2]))], [(a0.2.1, .inl (cA, o18.2.1.1, .inl o18.2.1.2))], [(a0.2.2.1, .inl (cA, o18.2.2.1.1, .inl o18.2.2.1.2))], [(a0.2.2.2.1, .inl (cA, o18.2.2.2.2.2.1.1, .inl o18.2.2.2.2.2.1.2))], [(a0.2.2.2.2.1, .inl (cA, o18.2.2.2.2.2.2.2.2.1.1, .inl o18.2.2.2.2.2.2.2.2.1.2))], [(a0.2.2.2.2.2, .inl (cA, o18.2.2.2.2.2.2.2.2.2.2.2.2.2.1.1, .inl o18.2.2.2.2.2.2.2.2.2.2.2.2.2.1.2))]] H locs := hw
        have hsp := Option.some.inj hsp
        subst hsp
        have hw : ww A s.heap D [w11 cA a0 o18.2] H locs := hw
        subst hQ
        exact k_iret hx hb hr hlk hw dX11_addHopping_97
      · have hsp := ift c16 hsp
        refine lv_iconst (v := 0) hx hb dX11_addHopping_79 (by decide) ?_
        have hsp := Option.some.inj hsp
        subst hsp
        have hw : ww A s.heap D [w11 cA a0 o15.2] H locs := hw
        subst hQ
        exact k_iret hx hb hr hlk hw dX11_addHopping_80
    have hsp := hsj14
    refine lv_icmp_ge (tgt := 72) hx hb dX11_addHopping_65 (by decide) (fun c19 => ?_) (fun c19 => ?_)
    · have hsp := ift c19 hsp
      refine lv_iconst (v := 0) hx hb dX11_addHopping_72 (by decide) ?_
      have hsp := Option.some.inj hsp
      subst hsp
      exact Jj14 _ _ _ hw (lv_sub hl [1, 2, 3, 4, 5, 6, 0] rfl)
    · have hsp := iff_ c19 hsp
      refine lv_iconst (v := 1) hx hb dX11_addHopping_68 (by decide) ?_
      refine lv_goto (tgt := 73) hx hb dX11_addHopping_69 (by decide) ?_
      have hsp := Option.some.inj hsp
      subst hsp
      exact Jj14 _ _ _ hw (lv_sub hl [1, 2, 3, 4, 5, 6, 0] rfl)
  have hsp := hsj11
  refine lv_if_eq (tgt := 51) hx hb dX11_addHopping_4 (by decide) (fun c20 => ?_) (fun c20 => ?_)
  · have hsp := ift c20 hsp
    refine lv_iconst (v := 0) hx hb dX11_addHopping_51 (by decide) ?_
    have hsp := Option.some.inj hsp
    subst hsp
    exact Jj11 _ _ _ hw (lv_sub hl [0, 1, 2, 3, 4, 5] rfl)
  · have hsp := iff_ c20 hsp
    refine lv_iload_n hx hb dX11_addHopping_7 rfl (lv_at hl 2 rfl) ?_
    refine lv_i2l hx hb dX11_addHopping_8 rfl ?_
    refine lv_lconst (v := 1) hx hb dX11_addHopping_9 (by decide) ?_
    refine lv_ldc2 hx hb hown (hts (.constantLong RX11 35 31) (by decide +kernel)) dX11_addHopping_10 ?_
    obtain ⟨o21, hso21, hsp⟩ := bnd_of hsp
    refine k_callS (nA := 3) (As := [.long p2.toInt64, .long (1 : Int64), .long (31 : Int64)]) (cs := []) (rs := [[(a0.1, .inr (11, [.ref a0.2.1, .ref a0.2.2.1, .int v0.2.2.1, .int v0.2.2.2.1, .ref a0.2.2.2.1, .int v0.2.2.2.2.2.1, .int v0.2.2.2.2.2.2.1, .ref a0.2.2.2.2.1, .int v0.2.2.2.2.2.2.2.2.1, .int v0.2.2.2.2.2.2.2.2.2.1, .int v0.2.2.2.2.2.2.2.2.2.2.1, .int v0.2.2.2.2.2.2.2.2.2.2.2.1, .ref a0.2.2.2.2.2, .int v0.2.2.2.2.2.2.2.2.2.2.2.2.2]))], [(a0.2.1, .inl (cA, v0.1.1, .inl v0.1.2))], [(a0.2.2.1, .inl (cA, v0.2.1.1, .inl v0.2.1.2))], [(a0.2.2.2.1, .inl (cA, v0.2.2.2.2.1.1, .inl v0.2.2.2.2.1.2))], [(a0.2.2.2.2.1, .inl (cA, v0.2.2.2.2.2.2.2.1.1, .inl v0.2.2.2.2.2.2.2.1.2))], [(a0.2.2.2.2.2, .inl (cA, v0.2.2.2.2.2.2.2.2.2.2.2.2.1.1, .inl v0.2.2.2.2.2.2.2.2.2.2.2.2.1.2))]]) (cs1 := []) (bs1 := [[(a0.1, .inr (11, [.ref a0.2.1, .ref a0.2.2.1, .int v0.2.2.1, .int v0.2.2.2.1, .ref a0.2.2.2.1, .int v0.2.2.2.2.2.1, .int v0.2.2.2.2.2.2.1, .ref a0.2.2.2.2.1, .int v0.2.2.2.2.2.2.2.2.1, .int v0.2.2.2.2.2.2.2.2.2.1, .int v0.2.2.2.2.2.2.2.2.2.2.1, .int v0.2.2.2.2.2.2.2.2.2.2.2.1, .ref a0.2.2.2.2.2, .int v0.2.2.2.2.2.2.2.2.2.2.2.2.2]))], [(a0.2.1, .inl (cA, v0.1.1, .inl v0.1.2))], [(a0.2.2.1, .inl (cA, v0.2.1.1, .inl v0.2.1.2))], [(a0.2.2.2.1, .inl (cA, v0.2.2.2.2.1.1, .inl v0.2.2.2.2.1.2))], [(a0.2.2.2.2.1, .inl (cA, v0.2.2.2.2.2.2.2.1.1, .inl v0.2.2.2.2.2.2.2.1.2))], [(a0.2.2.2.2.2, .inl (cA, v0.2.2.2.2.2.2.2.2.2.2.2.2.1.1, .inl v0.2.2.2.2.2.2.2.2.2.2.2.2.1.2))]]) (rest := []) (st1 := [.int o21]) ⟨hx, hb, hml, hown, hts⟩ hz hw hA (mX11_in l D cA cR p2.toInt64 (1 : Int64) (31 : Int64) o21 hso21) gX11_addHopping_X11_in rfl rfl rfl (by decide +kernel) rfl ⟨Nat.le_of_ble_eq_true rfl, Nat.le_of_ble_eq_true rfl⟩ hl.1 rfl (Nat.le_of_ble_eq_true rfl) dX11_addHopping_13 ⟨Nat.le_of_ble_eq_true rfl, Nat.le_of_ble_eq_true rfl⟩ [] [0, 1, 2, 3, 4, 5] [0, 1, 2, 3, 4, 5] rfl rfl rfl rfl rfl rfl (fun H locs hw => ?_)
    refine lv_if_eq (tgt := 51) hx hb dX11_addHopping_16 (by decide) (fun c22 => ?_) (fun c22 => ?_)
    · have hsp := ift c22 hsp
      refine lv_iconst (v := 0) hx hb dX11_addHopping_51 (by decide) ?_
      have hsp := Option.some.inj hsp
      subst hsp
      exact Jj11 _ _ _ hw (lv_sub hl [0, 1, 2, 3, 4, 5] rfl)
    · have hsp := iff_ c22 hsp
      refine lv_iload_n hx hb dX11_addHopping_19 rfl (lv_at hl 3 rfl) ?_
      refine lv_i2l hx hb dX11_addHopping_20 rfl ?_
      refine lv_lconst (v := 1) hx hb dX11_addHopping_21 (by decide) ?_
      refine lv_ldc2 hx hb hown (hts (.constantLong RX11 55 1000) (by decide +kernel)) dX11_addHopping_22 ?_
      obtain ⟨o23, hso23, hsp⟩ := bnd_of hsp
      refine k_callS (nA := 3) (As := [.long p3.toInt64, .long (1 : Int64), .long (1000 : Int64)]) (cs := []) (rs := [[(a0.1, .inr (11, [.ref a0.2.1, .ref a0.2.2.1, .int v0.2.2.1, .int v0.2.2.2.1, .ref a0.2.2.2.1, .int v0.2.2.2.2.2.1, .int v0.2.2.2.2.2.2.1, .ref a0.2.2.2.2.1, .int v0.2.2.2.2.2.2.2.2.1, .int v0.2.2.2.2.2.2.2.2.2.1, .int v0.2.2.2.2.2.2.2.2.2.2.1, .int v0.2.2.2.2.2.2.2.2.2.2.2.1, .ref a0.2.2.2.2.2, .int v0.2.2.2.2.2.2.2.2.2.2.2.2.2]))], [(a0.2.1, .inl (cA, v0.1.1, .inl v0.1.2))], [(a0.2.2.1, .inl (cA, v0.2.1.1, .inl v0.2.1.2))], [(a0.2.2.2.1, .inl (cA, v0.2.2.2.2.1.1, .inl v0.2.2.2.2.1.2))], [(a0.2.2.2.2.1, .inl (cA, v0.2.2.2.2.2.2.2.1.1, .inl v0.2.2.2.2.2.2.2.1.2))], [(a0.2.2.2.2.2, .inl (cA, v0.2.2.2.2.2.2.2.2.2.2.2.2.1.1, .inl v0.2.2.2.2.2.2.2.2.2.2.2.2.1.2))]]) (cs1 := []) (bs1 := [[(a0.1, .inr (11, [.ref a0.2.1, .ref a0.2.2.1, .int v0.2.2.1, .int v0.2.2.2.1, .ref a0.2.2.2.1, .int v0.2.2.2.2.2.1, .int v0.2.2.2.2.2.2.1, .ref a0.2.2.2.2.1, .int v0.2.2.2.2.2.2.2.2.1, .int v0.2.2.2.2.2.2.2.2.2.1, .int v0.2.2.2.2.2.2.2.2.2.2.1, .int v0.2.2.2.2.2.2.2.2.2.2.2.1, .ref a0.2.2.2.2.2, .int v0.2.2.2.2.2.2.2.2.2.2.2.2.2]))], [(a0.2.1, .inl (cA, v0.1.1, .inl v0.1.2))], [(a0.2.2.1, .inl (cA, v0.2.1.1, .inl v0.2.1.2))], [(a0.2.2.2.1, .inl (cA, v0.2.2.2.2.1.1, .inl v0.2.2.2.2.1.2))], [(a0.2.2.2.2.1, .inl (cA, v0.2.2.2.2.2.2.2.1.1, .inl v0.2.2.2.2.2.2.2.1.2))], [(a0.2.2.2.2.2, .inl (cA, v0.2.2.2.2.2.2.2.2.2.2.2.2.1.1, .inl v0.2.2.2.2.2.2.2.2.2.2.2.2.1.2))]]) (rest := []) (st1 := [.int o23]) ⟨hx, hb, hml, hown, hts⟩ hz hw hA (mX11_in l D cA cR p3.toInt64 (1 : Int64) (1000 : Int64) o23 hso23) gX11_addHopping_X11_in rfl rfl rfl (by decide +kernel) rfl ⟨Nat.le_of_ble_eq_true rfl, Nat.le_of_ble_eq_true rfl⟩ hl.1 rfl (Nat.le_of_ble_eq_true rfl) dX11_addHopping_25 ⟨Nat.le_of_ble_eq_true rfl, Nat.le_of_ble_eq_true rfl⟩ [] [0, 1, 2, 3, 4, 5] [0, 1, 2, 3, 4, 5] rfl rfl rfl rfl rfl rfl (fun H locs hw => ?_)
      refine lv_if_eq (tgt := 51) hx hb dX11_addHopping_28 (by decide) (fun c24 => ?_) (fun c24 => ?_)
      · have hsp := ift c24 hsp
        refine lv_iconst (v := 0) hx hb dX11_addHopping_51 (by decide) ?_
        have hsp := Option.some.inj hsp
        subst hsp
        exact Jj11 _ _ _ hw (lv_sub hl [0, 1, 2, 3, 4, 5] rfl)
      · have hsp := iff_ c24 hsp
        refine lv_iload hx hb dX11_addHopping_31 (lv_at hl 4 rfl) ?_
        obtain ⟨o25, hso25, hsp⟩ := bnd_of hsp
        refine k_callS (nA := 1) (As := [.int p4]) (cs := []) (rs := [[(a0.1, .inr (11, [.ref a0.2.1, .ref a0.2.2.1, .int v0.2.2.1, .int v0.2.2.2.1, .ref a0.2.2.2.1, .int v0.2.2.2.2.2.1, .int v0.2.2.2.2.2.2.1, .ref a0.2.2.2.2.1, .int v0.2.2.2.2.2.2.2.2.1, .int v0.2.2.2.2.2.2.2.2.2.1, .int v0.2.2.2.2.2.2.2.2.2.2.1, .int v0.2.2.2.2.2.2.2.2.2.2.2.1, .ref a0.2.2.2.2.2, .int v0.2.2.2.2.2.2.2.2.2.2.2.2.2]))], [(a0.2.1, .inl (cA, v0.1.1, .inl v0.1.2))], [(a0.2.2.1, .inl (cA, v0.2.1.1, .inl v0.2.1.2))], [(a0.2.2.2.1, .inl (cA, v0.2.2.2.2.1.1, .inl v0.2.2.2.2.1.2))], [(a0.2.2.2.2.1, .inl (cA, v0.2.2.2.2.2.2.2.1.1, .inl v0.2.2.2.2.2.2.2.1.2))], [(a0.2.2.2.2.2, .inl (cA, v0.2.2.2.2.2.2.2.2.2.2.2.2.1.1, .inl v0.2.2.2.2.2.2.2.2.2.2.2.2.1.2))]]) (cs1 := []) (bs1 := [[(a0.1, .inr (11, [.ref a0.2.1, .ref a0.2.2.1, .int v0.2.2.1, .int v0.2.2.2.1, .ref a0.2.2.2.1, .int v0.2.2.2.2.2.1, .int v0.2.2.2.2.2.2.1, .ref a0.2.2.2.2.1, .int v0.2.2.2.2.2.2.2.2.1, .int v0.2.2.2.2.2.2.2.2.2.1, .int v0.2.2.2.2.2.2.2.2.2.2.1, .int v0.2.2.2.2.2.2.2.2.2.2.2.1, .ref a0.2.2.2.2.2, .int v0.2.2.2.2.2.2.2.2.2.2.2.2.2]))], [(a0.2.1, .inl (cA, v0.1.1, .inl v0.1.2))], [(a0.2.2.1, .inl (cA, v0.2.1.1, .inl v0.2.1.2))], [(a0.2.2.2.1, .inl (cA, v0.2.2.2.2.1.1, .inl v0.2.2.2.2.1.2))], [(a0.2.2.2.2.1, .inl (cA, v0.2.2.2.2.2.2.2.1.1, .inl v0.2.2.2.2.2.2.2.1.2))], [(a0.2.2.2.2.2, .inl (cA, v0.2.2.2.2.2.2.2.2.2.2.2.2.1.1, .inl v0.2.2.2.2.2.2.2.2.2.2.2.2.1.2))]]) (rest := []) (st1 := [.int o25]) ⟨hx, hb, hml, hown, hts⟩ hz hw hA (mX11_isLevel l D cA cR p4 o25 hso25) gX11_addHopping_X11_isLevel rfl rfl rfl (by decide +kernel) rfl ⟨Nat.le_of_ble_eq_true rfl, Nat.le_of_ble_eq_true rfl⟩ hl.1 rfl (Nat.le_of_ble_eq_true rfl) dX11_addHopping_33 ⟨Nat.le_of_ble_eq_true rfl, Nat.le_of_ble_eq_true rfl⟩ [] [0, 1, 2, 3, 4, 5] [0, 1, 2, 3, 4, 5] rfl rfl rfl rfl rfl rfl (fun H locs hw => ?_)
        refine lv_if_eq (tgt := 51) hx hb dX11_addHopping_36 (by decide) (fun c26 => ?_) (fun c26 => ?_)
        · have hsp := ift c26 hsp
          refine lv_iconst (v := 0) hx hb dX11_addHopping_51 (by decide) ?_
          have hsp := Option.some.inj hsp
          subst hsp
          exact Jj11 _ _ _ hw (lv_sub hl [0, 1, 2, 3, 4, 5] rfl)
        · have hsp := iff_ c26 hsp
          refine lv_iload hx hb dX11_addHopping_39 (lv_at hl 5 rfl) ?_
          obtain ⟨o27, hso27, hsp⟩ := bnd_of hsp
          refine k_callS (nA := 1) (As := [.int p5]) (cs := []) (rs := [[(a0.1, .inr (11, [.ref a0.2.1, .ref a0.2.2.1, .int v0.2.2.1, .int v0.2.2.2.1, .ref a0.2.2.2.1, .int v0.2.2.2.2.2.1, .int v0.2.2.2.2.2.2.1, .ref a0.2.2.2.2.1, .int v0.2.2.2.2.2.2.2.2.1, .int v0.2.2.2.2.2.2.2.2.2.1, .int v0.2.2.2.2.2.2.2.2.2.2.1, .int v0.2.2.2.2.2.2.2.2.2.2.2.1, .ref a0.2.2.2.2.2, .int v0.2.2.2.2.2.2.2.2.2.2.2.2.2]))], [(a0.2.1, .inl (cA, v0.1.1, .inl v0.1.2))], [(a0.2.2.1, .inl (cA, v0.2.1.1, .inl v0.2.1.2))], [(a0.2.2.2.1, .inl (cA, v0.2.2.2.2.1.1, .inl v0.2.2.2.2.1.2))], [(a0.2.2.2.2.1, .inl (cA, v0.2.2.2.2.2.2.2.1.1, .inl v0.2.2.2.2.2.2.2.1.2))], [(a0.2.2.2.2.2, .inl (cA, v0.2.2.2.2.2.2.2.2.2.2.2.2.1.1, .inl v0.2.2.2.2.2.2.2.2.2.2.2.2.1.2))]]) (cs1 := []) (bs1 := [[(a0.1, .inr (11, [.ref a0.2.1, .ref a0.2.2.1, .int v0.2.2.1, .int v0.2.2.2.1, .ref a0.2.2.2.1, .int v0.2.2.2.2.2.1, .int v0.2.2.2.2.2.2.1, .ref a0.2.2.2.2.1, .int v0.2.2.2.2.2.2.2.2.1, .int v0.2.2.2.2.2.2.2.2.2.1, .int v0.2.2.2.2.2.2.2.2.2.2.1, .int v0.2.2.2.2.2.2.2.2.2.2.2.1, .ref a0.2.2.2.2.2, .int v0.2.2.2.2.2.2.2.2.2.2.2.2.2]))], [(a0.2.1, .inl (cA, v0.1.1, .inl v0.1.2))], [(a0.2.2.1, .inl (cA, v0.2.1.1, .inl v0.2.1.2))], [(a0.2.2.2.1, .inl (cA, v0.2.2.2.2.1.1, .inl v0.2.2.2.2.1.2))], [(a0.2.2.2.2.1, .inl (cA, v0.2.2.2.2.2.2.2.1.1, .inl v0.2.2.2.2.2.2.2.1.2))], [(a0.2.2.2.2.2, .inl (cA, v0.2.2.2.2.2.2.2.2.2.2.2.2.1.1, .inl v0.2.2.2.2.2.2.2.2.2.2.2.2.1.2))]]) (rest := []) (st1 := [.int o27]) ⟨hx, hb, hml, hown, hts⟩ hz hw hA (mX11_isStart l D cA cR p5 o27 hso27) gX11_addHopping_X11_isStart rfl rfl rfl (by decide +kernel) rfl ⟨Nat.le_of_ble_eq_true rfl, Nat.le_of_ble_eq_true rfl⟩ hl.1 rfl (Nat.le_of_ble_eq_true rfl) dX11_addHopping_41 ⟨Nat.le_of_ble_eq_true rfl, Nat.le_of_ble_eq_true rfl⟩ [] [0, 1, 2, 3, 4, 5] [0, 1, 2, 3, 4, 5] rfl rfl rfl rfl rfl rfl (fun H locs hw => ?_)
          refine lv_if_eq (tgt := 51) hx hb dX11_addHopping_44 (by decide) (fun c28 => ?_) (fun c28 => ?_)
          · have hsp := ift c28 hsp
            refine lv_iconst (v := 0) hx hb dX11_addHopping_51 (by decide) ?_
            have hsp := Option.some.inj hsp
            subst hsp
            exact Jj11 _ _ _ hw (lv_sub hl [0, 1, 2, 3, 4, 5] rfl)
          · have hsp := iff_ c28 hsp
            refine lv_iconst (v := 1) hx hb dX11_addHopping_47 (by decide) ?_
            refine lv_goto (tgt := 52) hx hb dX11_addHopping_48 (by decide) ?_
            have hsp := Option.some.inj hsp
            subst hsp
            exact Jj11 _ _ _ hw (lv_sub hl [0, 1, 2, 3, 4, 5] rfl)
noncomputable def qX11_removeSignal_37 (o5 : V11) : Nat → Int32 → (Nat → Int32) → Option (Int32 × (Nat → Int32))
  | 0, _, _ => none
  | n37 + 1, z37_0, z37_1 => (if (64 : Int32) ≤ z37_0 then (some (z37_0, z37_1)) else (grd (vp_in (z37_0 + (6 : Int32)) o5.1.1) (grd (vp_in z37_0 o5.1.1) (lt_ (upd z37_1 z37_0.toNatClampNeg (z37_1 (z37_0 + (6 : Int32)).toNatClampNeg)) (fun f18 => (qX11_removeSignal_37 o5 n37 (z37_0 + 1) f18))))))
noncomputable def sX11_removeSignal (N : Nat) (v0 : V11) (p1 : Int32) : Option (Int32 × V11) := (grd (vp_in (5 : Int32) v0.1.1) ((sX11_in p1.toInt64 (0 : Int64) (((v0.1.2 (5 : Int32).toNatClampNeg) - (1 : Int32)).toInt64)).bind (fun o2 => ((sX11_goes v0 o2 (1 : Int32)).bind (fun o3 => (if o3.1 = 0 then (some ((0 : Int32), o3.2)) else ((sX11_save N o3.2).bind (fun o5 => ((qX11_removeSignal_37 o5 N ((10 : Int32) + ((6 : Int32) * p1)) o5.1.2).bind (fun o14 => (grd (vp_in (5 : Int32) o5.1.1) (grd (vp_in (5 : Int32) o5.1.1) (lt_ (upd o14.2 (5 : Int32).toNatClampNeg ((o14.2 (5 : Int32).toNatClampNeg) - (1 : Int32))) (fun f21 => (grd (vp_in (5 : Int32) o5.1.1) (some ((f21 (5 : Int32).toNatClampNeg), ((o5.1.1, f21), o5.2.1, o5.2.2.1, o5.2.2.2.1, o5.2.2.2.2.1, o5.2.2.2.2.2.1, o5.2.2.2.2.2.2.1, o5.2.2.2.2.2.2.2.1, o5.2.2.2.2.2.2.2.2.1, o5.2.2.2.2.2.2.2.2.2.1, o5.2.2.2.2.2.2.2.2.2.2.1, o5.2.2.2.2.2.2.2.2.2.2.2.1, o5.2.2.2.2.2.2.2.2.2.2.2.2.1, o5.2.2.2.2.2.2.2.2.2.2.2.2.2))))))))))))))))))
abbrev rX11_removeSignal : Room := { frames := 1, cells := 0, slots := 0, locals := 25 }
set_option maxHeartbeats 4000000 in
set_option maxRecDepth 100000 in
theorem mX11_removeSignal (l : Launch) (D : va_G) (cA cR : ClassId) (N : Nat) (a0 : A11) (v0 : V11) (p1 : Int32) (o : Int32 × V11) (hsp : sX11_removeSignal N v0 p1 = some o) : MI l yX11_removeSignal wsX11_removeSignal rX11_removeSignal D cA cR [.ref a0.1, .int p1] [w11 cA a0 v0] (some (.int o.1)) [w11 cA a0 o.2] 0 0 := by
  have hsp : (grd (vp_in (5 : Int32) v0.1.1) ((sX11_in p1.toInt64 (0 : Int64) (((v0.1.2 (5 : Int32).toNatClampNeg) - (1 : Int32)).toInt64)).bind (fun o2 => ((sX11_goes v0 o2 (1 : Int32)).bind (fun o3 => (if o3.1 = 0 then (some ((0 : Int32), o3.2)) else ((sX11_save N o3.2).bind (fun o5 => ((qX11_removeSignal_37 o5 N ((10 : Int32) + ((6 : Int32) * p1)) o5.1.2).bind (fun o14 => (grd (vp_in (5 : Int32) o5.1.1) (grd (vp_in (5 : Int32) o5.1.1) (lt_ (upd o14.2 (5 : Int32).toNatClampNeg ((o14.2 (5 : Int32).toNatClampNeg) - (1 : Int32))) (fun f21 => (grd (vp_in (5 : Int32) o5.1.1) (some ((f21 (5 : Int32).toNatClampNeg), ((o5.1.1, f21), o5.2.1, o5.2.2.1, o5.2.2.2.1, o5.2.2.2.2.1, o5.2.2.2.2.2.1, o5.2.2.2.2.2.2.1, o5.2.2.2.2.2.2.2.1, o5.2.2.2.2.2.2.2.2.1, o5.2.2.2.2.2.2.2.2.2.1, o5.2.2.2.2.2.2.2.2.2.2.1, o5.2.2.2.2.2.2.2.2.2.2.2.1, o5.2.2.2.2.2.2.2.2.2.2.2.2.1, o5.2.2.2.2.2.2.2.2.2.2.2.2.2)))))))))))))))))) = some o := hsp
  refine MI.ofW (cc := cX11_removeSignal) (maxL := 3) (ret := (some .int)) (by decide) rfl (Nat.le_of_ble_eq_true rfl) ?_
  intro p e s m args below meth c A ls Q H locs hx hb hr hlk hml hown hnm hts hz hA hQ hw hl
  have hl : lv_has ls 3 [(0, .ref a0.1), (1, .int p1)] := hl
  have hw : ww A s.heap D [[(a0.1, .inr (11, [.ref a0.2.1, .ref a0.2.2.1, .int v0.2.2.1, .int v0.2.2.2.1, .ref a0.2.2.2.1, .int v0.2.2.2.2.2.1, .int v0.2.2.2.2.2.2.1, .ref a0.2.2.2.2.1, .int v0.2.2.2.2.2.2.2.2.1, .int v0.2.2.2.2.2.2.2.2.2.1, .int v0.2.2.2.2.2.2.2.2.2.2.1, .int v0.2.2.2.2.2.2.2.2.2.2.2.1, .ref a0.2.2.2.2.2, .int v0.2.2.2.2.2.2.2.2.2.2.2.2.2]))], [(a0.2.1, .inl (cA, v0.1.1, .inl v0.1.2))], [(a0.2.2.1, .inl (cA, v0.2.1.1, .inl v0.2.1.2))], [(a0.2.2.2.1, .inl (cA, v0.2.2.2.2.1.1, .inl v0.2.2.2.2.1.2))], [(a0.2.2.2.2.1, .inl (cA, v0.2.2.2.2.2.2.2.1.1, .inl v0.2.2.2.2.2.2.2.1.2))], [(a0.2.2.2.2.2, .inl (cA, v0.2.2.2.2.2.2.2.2.2.2.2.2.1.1, .inl v0.2.2.2.2.2.2.2.2.2.2.2.2.1.2))]] H locs := hw
  refine lv_aload_n hx hb dX11_removeSignal_0 rfl (lv_at hl 0 rfl) ?_
  refine lv_iload_n hx hb dX11_removeSignal_1 rfl (lv_at hl 1 rfl) ?_
  refine lv_i2l hx hb dX11_removeSignal_2 rfl ?_
  refine lv_lconst (v := 0) hx hb dX11_removeSignal_3 (by decide) ?_
  refine lv_aload_n hx hb dX11_removeSignal_4 rfl (lv_at hl 0 rfl) ?_
  refine k_get (ci := 11) (v := .ref a0.2.1) (C := RX11) (T := TX11) (N := 14) hx hb hts hown hz hw (by decide +kernel) 0 rfl rfl 0 (by decide) (hts (.fieldLink RX11 7 "OccupancyMonitorModel" "all" "[I") (by decide +kernel)) (fun _ h9 => h9) rfl dX11_removeSignal_5 ?_
  refine lv_iconst (v := 5) hx hb dX11_removeSignal_8 (by decide) ?_
  obtain ⟨g1, hsp⟩ := grd_of hsp
  refine k_iald hx hb hz hw 1 rfl g1 dX11_removeSignal_9 ?_
  refine lv_iconst (v := 1) hx hb dX11_removeSignal_10 (by decide) ?_
  refine lv_isub hx hb dX11_removeSignal_11 ?_
  refine lv_i2l hx hb dX11_removeSignal_12 rfl ?_
  obtain ⟨o2, hso2, hsp⟩ := bnd_of hsp
  refine k_callS (nA := 3) (As := [.long p1.toInt64, .long (0 : Int64), .long ((v0.1.2 (5 : Int32).toNatClampNeg) - (1 : Int32)).toInt64]) (cs := []) (rs := [[(a0.1, .inr (11, [.ref a0.2.1, .ref a0.2.2.1, .int v0.2.2.1, .int v0.2.2.2.1, .ref a0.2.2.2.1, .int v0.2.2.2.2.2.1, .int v0.2.2.2.2.2.2.1, .ref a0.2.2.2.2.1, .int v0.2.2.2.2.2.2.2.2.1, .int v0.2.2.2.2.2.2.2.2.2.1, .int v0.2.2.2.2.2.2.2.2.2.2.1, .int v0.2.2.2.2.2.2.2.2.2.2.2.1, .ref a0.2.2.2.2.2, .int v0.2.2.2.2.2.2.2.2.2.2.2.2.2]))], [(a0.2.1, .inl (cA, v0.1.1, .inl v0.1.2))], [(a0.2.2.1, .inl (cA, v0.2.1.1, .inl v0.2.1.2))], [(a0.2.2.2.1, .inl (cA, v0.2.2.2.2.1.1, .inl v0.2.2.2.2.1.2))], [(a0.2.2.2.2.1, .inl (cA, v0.2.2.2.2.2.2.2.1.1, .inl v0.2.2.2.2.2.2.2.1.2))], [(a0.2.2.2.2.2, .inl (cA, v0.2.2.2.2.2.2.2.2.2.2.2.2.1.1, .inl v0.2.2.2.2.2.2.2.2.2.2.2.2.1.2))]]) (cs1 := []) (bs1 := [[(a0.1, .inr (11, [.ref a0.2.1, .ref a0.2.2.1, .int v0.2.2.1, .int v0.2.2.2.1, .ref a0.2.2.2.1, .int v0.2.2.2.2.2.1, .int v0.2.2.2.2.2.2.1, .ref a0.2.2.2.2.1, .int v0.2.2.2.2.2.2.2.2.1, .int v0.2.2.2.2.2.2.2.2.2.1, .int v0.2.2.2.2.2.2.2.2.2.2.1, .int v0.2.2.2.2.2.2.2.2.2.2.2.1, .ref a0.2.2.2.2.2, .int v0.2.2.2.2.2.2.2.2.2.2.2.2.2]))], [(a0.2.1, .inl (cA, v0.1.1, .inl v0.1.2))], [(a0.2.2.1, .inl (cA, v0.2.1.1, .inl v0.2.1.2))], [(a0.2.2.2.1, .inl (cA, v0.2.2.2.2.1.1, .inl v0.2.2.2.2.1.2))], [(a0.2.2.2.2.1, .inl (cA, v0.2.2.2.2.2.2.2.1.1, .inl v0.2.2.2.2.2.2.2.1.2))], [(a0.2.2.2.2.2, .inl (cA, v0.2.2.2.2.2.2.2.2.2.2.2.2.1.1, .inl v0.2.2.2.2.2.2.2.2.2.2.2.2.1.2))]]) (rest := [.ref a0.1]) (st1 := [.int o2, .ref a0.1]) ⟨hx, hb, hml, hown, hts⟩ hz hw hA (mX11_in l D cA cR p1.toInt64 (0 : Int64) (((v0.1.2 (5 : Int32).toNatClampNeg) - (1 : Int32)).toInt64) o2 hso2) gX11_removeSignal_X11_in rfl rfl rfl (by decide +kernel) rfl ⟨Nat.le_of_ble_eq_true rfl, Nat.le_of_ble_eq_true rfl⟩ hl.1 rfl (Nat.le_of_ble_eq_true rfl) dX11_removeSignal_13 ⟨Nat.le_of_ble_eq_true rfl, Nat.le_of_ble_eq_true rfl⟩ [] [0, 1, 2, 3, 4, 5] [0, 1, 2, 3, 4, 5] rfl rfl rfl rfl rfl rfl (fun H locs hw => ?_)
  refine lv_iconst (v := 1) hx hb dX11_removeSignal_16 (by decide) ?_
  have hw : ww A s.heap D [w11 cA a0 v0] H locs := hw
  obtain ⟨o3, hso3, hsp⟩ := bnd_of hsp
  refine k_callV (ci := 11) (C := RX11) (T := TX11) (N := 14) (nA := 2) (As := [.int o2, .int (1 : Int32)]) (cs := [w11 cA a0 v0]) (rs := []) (cs1 := [w11 cA a0 o3.2]) (bs1 := [w11 cA a0 o3.2]) (rest := []) (st1 := [.int o3.1]) ⟨hx, hb, hml, hown, hts⟩ hz hw hA (mX11_goes l D cA cR a0 v0 o2 (1 : Int32) o3 hso3) gX11_removeSignal_X11_goes rfl rfl rfl (by decide +kernel) rfl ⟨Nat.le_of_ble_eq_true rfl, Nat.le_of_ble_eq_true rfl⟩ rfl rfl hl.1 rfl (Nat.le_of_ble_eq_true rfl) dX11_removeSignal_17 ⟨Nat.le_of_ble_eq_true rfl, Nat.le_of_ble_eq_true rfl⟩ [0] [] [0] rfl rfl rfl rfl rfl rfl (fun H locs hw => ?_)
  have hw : ww A s.heap D [[(a0.1, .inr (11, [.ref a0.2.1, .ref a0.2.2.1, .int o3.2.2.2.1, .int o3.2.2.2.2.1, .ref a0.2.2.2.1, .int o3.2.2.2.2.2.2.1, .int o3.2.2.2.2.2.2.2.1, .ref a0.2.2.2.2.1, .int o3.2.2.2.2.2.2.2.2.2.1, .int o3.2.2.2.2.2.2.2.2.2.2.1, .int o3.2.2.2.2.2.2.2.2.2.2.2.1, .int o3.2.2.2.2.2.2.2.2.2.2.2.2.1, .ref a0.2.2.2.2.2, .int o3.2.2.2.2.2.2.2.2.2.2.2.2.2.2]))], [(a0.2.1, .inl (cA, o3.2.1.1, .inl o3.2.1.2))], [(a0.2.2.1, .inl (cA, o3.2.2.1.1, .inl o3.2.2.1.2))], [(a0.2.2.2.1, .inl (cA, o3.2.2.2.2.2.1.1, .inl o3.2.2.2.2.2.1.2))], [(a0.2.2.2.2.1, .inl (cA, o3.2.2.2.2.2.2.2.2.1.1, .inl o3.2.2.2.2.2.2.2.2.1.2))], [(a0.2.2.2.2.2, .inl (cA, o3.2.2.2.2.2.2.2.2.2.2.2.2.2.1.1, .inl o3.2.2.2.2.2.2.2.2.2.2.2.2.2.1.2))]] H locs := hw
  refine lv_if_ne (tgt := 25) hx hb dX11_removeSignal_20 (by decide) (fun c4 => ?_) (fun c4 => ?_)
  · have hsp := iff_ c4 hsp
    refine lv_aload_n hx hb dX11_removeSignal_25 rfl (lv_at hl 0 rfl) ?_
    have hw : ww A s.heap D [w11 cA a0 o3.2] H locs := hw
    obtain ⟨o5, hso5, hsp⟩ := bnd_of hsp
    refine k_callV (ci := 11) (C := RX11) (T := TX11) (N := 14) (nA := 0) (As := []) (cs := [w11 cA a0 o3.2]) (rs := []) (cs1 := [w11 cA a0 o5]) (bs1 := [w11 cA a0 o5]) (rest := []) (st1 := []) ⟨hx, hb, hml, hown, hts⟩ hz hw hA (mX11_save l D cA cR N a0 o3.2 o5 hso5) gX11_removeSignal_X11_save rfl rfl rfl (by decide +kernel) rfl ⟨Nat.le_of_ble_eq_true rfl, Nat.le_of_ble_eq_true rfl⟩ rfl rfl hl.1 rfl (Nat.le_of_ble_eq_true rfl) dX11_removeSignal_26 ⟨Nat.le_of_ble_eq_true rfl, Nat.le_of_ble_eq_true rfl⟩ [0] [] [0] rfl rfl rfl rfl rfl rfl (fun H locs hw => ?_)
    have hw : ww A s.heap D [[(a0.1, .inr (11, [.ref a0.2.1, .ref a0.2.2.1, .int o5.2.2.1, .int o5.2.2.2.1, .ref a0.2.2.2.1, .int o5.2.2.2.2.2.1, .int o5.2.2.2.2.2.2.1, .ref a0.2.2.2.2.1, .int o5.2.2.2.2.2.2.2.2.1, .int o5.2.2.2.2.2.2.2.2.2.1, .int o5.2.2.2.2.2.2.2.2.2.2.1, .int o5.2.2.2.2.2.2.2.2.2.2.2.1, .ref a0.2.2.2.2.2, .int o5.2.2.2.2.2.2.2.2.2.2.2.2.2]))], [(a0.2.1, .inl (cA, o5.1.1, .inl o5.1.2))], [(a0.2.2.1, .inl (cA, o5.2.1.1, .inl o5.2.1.2))], [(a0.2.2.2.1, .inl (cA, o5.2.2.2.2.1.1, .inl o5.2.2.2.2.1.2))], [(a0.2.2.2.2.1, .inl (cA, o5.2.2.2.2.2.2.2.1.1, .inl o5.2.2.2.2.2.2.2.1.2))], [(a0.2.2.2.2.2, .inl (cA, o5.2.2.2.2.2.2.2.2.2.2.2.2.1.1, .inl o5.2.2.2.2.2.2.2.2.2.2.2.2.1.2))]] H locs := hw
    refine lv_bipush (v := 10) hx hb dX11_removeSignal_29 (by decide) ?_
    refine lv_bipush (v := 6) hx hb dX11_removeSignal_31 (by decide) ?_
    refine lv_iload_n hx hb dX11_removeSignal_33 rfl (lv_at hl 1 rfl) ?_
    refine lv_imul hx hb dX11_removeSignal_34 ?_
    refine lv_iadd hx hb dX11_removeSignal_35 ?_
    refine lv_istore_n (lv' := [(2, .int ((10 : Int32) + ((6 : Int32) * p1))), (0, .ref a0.1), (1, .int p1)]) hx hb dX11_removeSignal_36 rfl hl (by decide) rfl (fun ls hl => ?_)
    have L37 : ∀ (n37 : Nat) (z37_0 : Int32) (z37_1 : (Nat → Int32)) (o14 : Int32 × (Nat → Int32)), qX11_removeSignal_37 o5 n37 z37_0 z37_1 = some o14 → ∀ (H : Heap) (locs : List Loc) (ls : Array Slot), ww A s.heap D [[(a0.1, .inr (11, [.ref a0.2.1, .ref a0.2.2.1, .int o5.2.2.1, .int o5.2.2.2.1, .ref a0.2.2.2.1, .int o5.2.2.2.2.2.1, .int o5.2.2.2.2.2.2.1, .ref a0.2.2.2.2.1, .int o5.2.2.2.2.2.2.2.2.1, .int o5.2.2.2.2.2.2.2.2.2.1, .int o5.2.2.2.2.2.2.2.2.2.2.1, .int o5.2.2.2.2.2.2.2.2.2.2.2.1, .ref a0.2.2.2.2.2, .int o5.2.2.2.2.2.2.2.2.2.2.2.2.2]))], [(a0.2.1, .inl (cA, o5.1.1, .inl z37_1))], [(a0.2.2.1, .inl (cA, o5.2.1.1, .inl o5.2.1.2))], [(a0.2.2.2.1, .inl (cA, o5.2.2.2.2.1.1, .inl o5.2.2.2.2.1.2))], [(a0.2.2.2.2.1, .inl (cA, o5.2.2.2.2.2.2.2.1.1, .inl o5.2.2.2.2.2.2.2.1.2))], [(a0.2.2.2.2.2, .inl (cA, o5.2.2.2.2.2.2.2.2.2.2.2.2.1.1, .inl o5.2.2.2.2.2.2.2.2.2.2.2.2.1.2))]] H locs → lv_has ls 3 [(0, .ref a0.1), (1, .int p1), (2, .int z37_0)] → (∀ (y64 : Int32 × (Nat → Int32)), o14 = y64 → ∀ (H : Heap) (locs : List Loc) (ls : Array Slot), ww A s.heap D [[(a0.1, .inr (11, [.ref a0.2.1, .ref a0.2.2.1, .int o5.2.2.1, .int o5.2.2.2.1, .ref a0.2.2.2.1, .int o5.2.2.2.2.2.1, .int o5.2.2.2.2.2.2.1, .ref a0.2.2.2.2.1, .int o5.2.2.2.2.2.2.2.2.1, .int o5.2.2.2.2.2.2.2.2.2.1, .int o5.2.2.2.2.2.2.2.2.2.2.1, .int o5.2.2.2.2.2.2.2.2.2.2.2.1, .ref a0.2.2.2.2.2, .int o5.2.2.2.2.2.2.2.2.2.2.2.2.2]))], [(a0.2.1, .inl (cA, o5.1.1, .inl y64.2))], [(a0.2.2.1, .inl (cA, o5.2.1.1, .inl o5.2.1.2))], [(a0.2.2.2.1, .inl (cA, o5.2.2.2.2.1.1, .inl o5.2.2.2.2.1.2))], [(a0.2.2.2.2.1, .inl (cA, o5.2.2.2.2.2.2.2.1.1, .inl o5.2.2.2.2.2.2.2.1.2))], [(a0.2.2.2.2.2, .inl (cA, o5.2.2.2.2.2.2.2.2.2.2.2.2.1.1, .inl o5.2.2.2.2.2.2.2.2.2.2.2.2.1.2))]] H locs → lv_has ls 3 [(0, .ref a0.1), (1, .int p1), (2, .int y64.1)] → W p l e rX11_removeSignal s m args below meth c H locs 0 0 Q (F0 m 64 ls [])) → W p l e rX11_removeSignal s m args below meth c H locs 0 0 Q (F0 m 37 ls []) := by
      intro n37
      induction n37 with
      | zero => intro z37_0 z37_1 o14 hsp; cases hsp
      | succ n37 ih37 =>
        intro z37_0 z37_1 o14 hsp H locs ls hw hl kx37_64
        have hsp : (if (64 : Int32) ≤ z37_0 then (some (z37_0, z37_1)) else (grd (vp_in (z37_0 + (6 : Int32)) o5.1.1) (grd (vp_in z37_0 o5.1.1) (lt_ (upd z37_1 z37_0.toNatClampNeg (z37_1 (z37_0 + (6 : Int32)).toNatClampNeg)) (fun f18 => (qX11_removeSignal_37 o5 n37 (z37_0 + 1) f18)))))) = some o14 := hsp
        refine lv_iload_n hx hb dX11_removeSignal_37 rfl (lv_at hl 2 rfl) ?_
        refine lv_bipush (v := 64) hx hb dX11_removeSignal_38 (by decide) ?_
        refine lv_icmp_ge (tgt := 64) hx hb dX11_removeSignal_40 (by decide) (fun c15 => ?_) (fun c15 => ?_)
        · have hsp := ift c15 hsp
          have hsp := Option.some.inj hsp
          subst hsp
          exact kx37_64 _ rfl _ _ _ hw (lv_sub hl [0, 1, 2] rfl)
        · have hsp := iff_ c15 hsp
          refine lv_aload_n hx hb dX11_removeSignal_43 rfl (lv_at hl 0 rfl) ?_
          refine k_get (ci := 11) (v := .ref a0.2.1) (C := RX11) (T := TX11) (N := 14) hx hb hts hown hz hw (by decide +kernel) 0 rfl rfl 0 (by decide) (hts (.fieldLink RX11 7 "OccupancyMonitorModel" "all" "[I") (by decide +kernel)) (fun _ h9 => h9) rfl dX11_removeSignal_44 ?_
          refine lv_iload_n hx hb dX11_removeSignal_47 rfl (lv_at hl 2 rfl) ?_
          refine lv_aload_n hx hb dX11_removeSignal_48 rfl (lv_at hl 0 rfl) ?_
          refine k_get (ci := 11) (v := .ref a0.2.1) (C := RX11) (T := TX11) (N := 14) hx hb hts hown hz hw (by decide +kernel) 0 rfl rfl 0 (by decide) (hts (.fieldLink RX11 7 "OccupancyMonitorModel" "all" "[I") (by decide +kernel)) (fun _ h9 => h9) rfl dX11_removeSignal_49 ?_
          refine lv_iload_n hx hb dX11_removeSignal_52 rfl (lv_at hl 2 rfl) ?_
          refine lv_bipush (v := 6) hx hb dX11_removeSignal_53 (by decide) ?_
          refine lv_iadd hx hb dX11_removeSignal_55 ?_
          obtain ⟨g16, hsp⟩ := grd_of hsp
          refine k_iald hx hb hz hw 1 rfl g16 dX11_removeSignal_56 ?_
          obtain ⟨g17, hsp⟩ := grd_of hsp
          obtain ⟨f18, ef18⟩ : ∃ u : Nat → Int32, u = (upd z37_1 z37_0.toNatClampNeg (z37_1 (z37_0 + (6 : Int32)).toNatClampNeg)) := ⟨_, rfl⟩
          have hsp := lt_of hsp ef18
          refine k_iast (bs1 := [[(a0.1, .inr (11, [.ref a0.2.1, .ref a0.2.2.1, .int o5.2.2.1, .int o5.2.2.2.1, .ref a0.2.2.2.1, .int o5.2.2.2.2.2.1, .int o5.2.2.2.2.2.2.1, .ref a0.2.2.2.2.1, .int o5.2.2.2.2.2.2.2.2.1, .int o5.2.2.2.2.2.2.2.2.2.1, .int o5.2.2.2.2.2.2.2.2.2.2.1, .int o5.2.2.2.2.2.2.2.2.2.2.2.1, .ref a0.2.2.2.2.2, .int o5.2.2.2.2.2.2.2.2.2.2.2.2.2]))], [(a0.2.1, .inl (cA, o5.1.1, .inl f18))], [(a0.2.2.1, .inl (cA, o5.2.1.1, .inl o5.2.1.2))], [(a0.2.2.2.1, .inl (cA, o5.2.2.2.2.1.1, .inl o5.2.2.2.2.1.2))], [(a0.2.2.2.2.1, .inl (cA, o5.2.2.2.2.2.2.2.1.1, .inl o5.2.2.2.2.2.2.2.1.2))], [(a0.2.2.2.2.2, .inl (cA, o5.2.2.2.2.2.2.2.2.2.2.2.2.1.1, .inl o5.2.2.2.2.2.2.2.2.2.2.2.2.1.2))]]) hx hb hz hw 1 rfl g17 dX11_removeSignal_57 (by rw [ef18]; rfl) (fun H locs hw => ?_)
          refine lv_iinc (v := (z37_0 + 1)) (lv' := [(2, .int (z37_0 + 1)), (0, .ref a0.1), (1, .int p1)]) hx hb dX11_removeSignal_58 hl (k := 2) rfl rfl (by decide) rfl (fun ls hl => ?_)
          refine lv_goto (tgt := 37) hx hb dX11_removeSignal_61 (by decide) ?_
          exact ih37 (z37_0 + 1) f18 _ hsp _ _ _ hw (lv_sub hl [1, 2, 0] rfl) kx37_64
    obtain ⟨o14, hso14, hsp⟩ := bnd_of hsp
    refine L37 N ((10 : Int32) + ((6 : Int32) * p1)) o5.1.2 _ hso14 _ _ _ hw (lv_sub hl [1, 2, 0] rfl) (fun y64 hy64 H locs ls hw hl => ?_)
    cases hy64
    refine lv_aload_n hx hb dX11_removeSignal_64 rfl (lv_at hl 0 rfl) ?_
    refine k_get (ci := 11) (v := .ref a0.2.1) (C := RX11) (T := TX11) (N := 14) hx hb hts hown hz hw (by decide +kernel) 0 rfl rfl 0 (by decide) (hts (.fieldLink RX11 7 "OccupancyMonitorModel" "all" "[I") (by decide +kernel)) (fun _ h9 => h9) rfl dX11_removeSignal_65 ?_
    refine lv_iconst (v := 5) hx hb dX11_removeSignal_68 (by decide) ?_
    refine lv_dup2_11 hx hb dX11_removeSignal_69 rfl rfl ?_
    obtain ⟨g19, hsp⟩ := grd_of hsp
    refine k_iald hx hb hz hw 1 rfl g19 dX11_removeSignal_70 ?_
    refine lv_iconst (v := 1) hx hb dX11_removeSignal_71 (by decide) ?_
    refine lv_isub hx hb dX11_removeSignal_72 ?_
    obtain ⟨g20, hsp⟩ := grd_of hsp
    obtain ⟨f21, ef21⟩ : ∃ u : Nat → Int32, u = (upd o14.2 (5 : Int32).toNatClampNeg ((o14.2 (5 : Int32).toNatClampNeg) - (1 : Int32))) := ⟨_, rfl⟩
    have hsp := lt_of hsp ef21
    refine k_iast (bs1 := [[(a0.1, .inr (11, [.ref a0.2.1, .ref a0.2.2.1, .int o5.2.2.1, .int o5.2.2.2.1, .ref a0.2.2.2.1, .int o5.2.2.2.2.2.1, .int o5.2.2.2.2.2.2.1, .ref a0.2.2.2.2.1, .int o5.2.2.2.2.2.2.2.2.1, .int o5.2.2.2.2.2.2.2.2.2.1, .int o5.2.2.2.2.2.2.2.2.2.2.1, .int o5.2.2.2.2.2.2.2.2.2.2.2.1, .ref a0.2.2.2.2.2, .int o5.2.2.2.2.2.2.2.2.2.2.2.2.2]))], [(a0.2.1, .inl (cA, o5.1.1, .inl f21))], [(a0.2.2.1, .inl (cA, o5.2.1.1, .inl o5.2.1.2))], [(a0.2.2.2.1, .inl (cA, o5.2.2.2.2.1.1, .inl o5.2.2.2.2.1.2))], [(a0.2.2.2.2.1, .inl (cA, o5.2.2.2.2.2.2.2.1.1, .inl o5.2.2.2.2.2.2.2.1.2))], [(a0.2.2.2.2.2, .inl (cA, o5.2.2.2.2.2.2.2.2.2.2.2.2.1.1, .inl o5.2.2.2.2.2.2.2.2.2.2.2.2.1.2))]]) hx hb hz hw 1 rfl g20 dX11_removeSignal_73 (by rw [ef21]; rfl) (fun H locs hw => ?_)
    refine lv_aload_n hx hb dX11_removeSignal_74 rfl (lv_at hl 0 rfl) ?_
    refine k_get (ci := 11) (v := .ref a0.2.1) (C := RX11) (T := TX11) (N := 14) hx hb hts hown hz hw (by decide +kernel) 0 rfl rfl 0 (by decide) (hts (.fieldLink RX11 7 "OccupancyMonitorModel" "all" "[I") (by decide +kernel)) (fun _ h9 => h9) rfl dX11_removeSignal_75 ?_
    refine lv_iconst (v := 5) hx hb dX11_removeSignal_78 (by decide) ?_
    obtain ⟨g22, hsp⟩ := grd_of hsp
    refine k_iald hx hb hz hw 1 rfl g22 dX11_removeSignal_79 ?_
    have hsp := Option.some.inj hsp
    subst hsp
    have hw : ww A s.heap D [w11 cA a0 ((o5.1.1, f21), o5.2.1, o5.2.2.1, o5.2.2.2.1, o5.2.2.2.2.1, o5.2.2.2.2.2.1, o5.2.2.2.2.2.2.1, o5.2.2.2.2.2.2.2.1, o5.2.2.2.2.2.2.2.2.1, o5.2.2.2.2.2.2.2.2.2.1, o5.2.2.2.2.2.2.2.2.2.2.1, o5.2.2.2.2.2.2.2.2.2.2.2.1, o5.2.2.2.2.2.2.2.2.2.2.2.2.1, o5.2.2.2.2.2.2.2.2.2.2.2.2.2)] H locs := hw
    subst hQ
    exact k_iret hx hb hr hlk hw dX11_removeSignal_80
  · have hsp := ift c4 hsp
    refine lv_iconst (v := 0) hx hb dX11_removeSignal_23 (by decide) ?_
    have hsp := Option.some.inj hsp
    subst hsp
    have hw : ww A s.heap D [w11 cA a0 o3.2] H locs := hw
    subst hQ
    exact k_iret hx hb hr hlk hw dX11_removeSignal_24
noncomputable def sX11_setLevels (N : Nat) (v0 : V11) (p1 : Int32) (p2 : Int32) : Option (Int32 × V11) := ((sX11_isLevel p1).bind (fun o1 => (((if o1 = 0 then (some (0 : Int32)) else ((sX11_isLevel p2).bind (fun o15 => (if o15 = 0 then (some (0 : Int32)) else (some (1 : Int32)))))) : Option (Int32)).bind (fun j5 => ((sX11_goes v0 j5 (1 : Int32)).bind (fun o6 => (if o6.1 = 0 then (some ((0 : Int32), o6.2)) else ((sX11_save N o6.2).bind (fun o8 => (grd (vp_in (2 : Int32) o8.1.1) (grd (vp_in (1 : Int32) o8.1.1) (lt_ (upd o8.1.2 (1 : Int32).toNatClampNeg p1) (fun f11 => (grd (vp_in (2 : Int32) o8.1.1) (lt_ (upd f11 (2 : Int32).toNatClampNeg p2) (fun f13 => (some ((o8.1.2 (2 : Int32).toNatClampNeg), ((o8.1.1, f13), o8.2.1, o8.2.2.1, o8.2.2.2.1, o8.2.2.2.2.1, o8.2.2.2.2.2.1, o8.2.2.2.2.2.2.1, o8.2.2.2.2.2.2.2.1, o8.2.2.2.2.2.2.2.2.1, o8.2.2.2.2.2.2.2.2.2.1, o8.2.2.2.2.2.2.2.2.2.2.1, o8.2.2.2.2.2.2.2.2.2.2.2.1, o8.2.2.2.2.2.2.2.2.2.2.2.2.1, o8.2.2.2.2.2.2.2.2.2.2.2.2.2)))))))))))))))))))
abbrev rX11_setLevels : Room := { frames := 2, cells := 0, slots := 0, locals := 45 }
set_option maxHeartbeats 4000000 in
set_option maxRecDepth 100000 in
theorem mX11_setLevels (l : Launch) (D : va_G) (cA cR : ClassId) (N : Nat) (a0 : A11) (v0 : V11) (p1 : Int32) (p2 : Int32) (o : Int32 × V11) (hsp : sX11_setLevels N v0 p1 p2 = some o) : MI l yX11_setLevels wsX11_setLevels rX11_setLevels D cA cR [.ref a0.1, .int p1, .int p2] [w11 cA a0 v0] (some (.int o.1)) [w11 cA a0 o.2] 0 0 := by
  have hsp : ((sX11_isLevel p1).bind (fun o1 => (((if o1 = 0 then (some (0 : Int32)) else ((sX11_isLevel p2).bind (fun o15 => (if o15 = 0 then (some (0 : Int32)) else (some (1 : Int32)))))) : Option (Int32)).bind (fun j5 => ((sX11_goes v0 j5 (1 : Int32)).bind (fun o6 => (if o6.1 = 0 then (some ((0 : Int32), o6.2)) else ((sX11_save N o6.2).bind (fun o8 => (grd (vp_in (2 : Int32) o8.1.1) (grd (vp_in (1 : Int32) o8.1.1) (lt_ (upd o8.1.2 (1 : Int32).toNatClampNeg p1) (fun f11 => (grd (vp_in (2 : Int32) o8.1.1) (lt_ (upd f11 (2 : Int32).toNatClampNeg p2) (fun f13 => (some ((o8.1.2 (2 : Int32).toNatClampNeg), ((o8.1.1, f13), o8.2.1, o8.2.2.1, o8.2.2.2.1, o8.2.2.2.2.1, o8.2.2.2.2.2.1, o8.2.2.2.2.2.2.1, o8.2.2.2.2.2.2.2.1, o8.2.2.2.2.2.2.2.2.1, o8.2.2.2.2.2.2.2.2.2.1, o8.2.2.2.2.2.2.2.2.2.2.1, o8.2.2.2.2.2.2.2.2.2.2.2.1, o8.2.2.2.2.2.2.2.2.2.2.2.2.1, o8.2.2.2.2.2.2.2.2.2.2.2.2.2))))))))))))))))))) = some o := hsp
  refine MI.ofW (cc := cX11_setLevels) (maxL := 4) (ret := (some .int)) (by decide) rfl (Nat.le_of_ble_eq_true rfl) ?_
  intro p e s m args below meth c A ls Q H locs hx hb hr hlk hml hown hnm hts hz hA hQ hw hl
  have hl : lv_has ls 4 [(0, .ref a0.1), (1, .int p1), (2, .int p2)] := hl
  have hw : ww A s.heap D [[(a0.1, .inr (11, [.ref a0.2.1, .ref a0.2.2.1, .int v0.2.2.1, .int v0.2.2.2.1, .ref a0.2.2.2.1, .int v0.2.2.2.2.2.1, .int v0.2.2.2.2.2.2.1, .ref a0.2.2.2.2.1, .int v0.2.2.2.2.2.2.2.2.1, .int v0.2.2.2.2.2.2.2.2.2.1, .int v0.2.2.2.2.2.2.2.2.2.2.1, .int v0.2.2.2.2.2.2.2.2.2.2.2.1, .ref a0.2.2.2.2.2, .int v0.2.2.2.2.2.2.2.2.2.2.2.2.2]))], [(a0.2.1, .inl (cA, v0.1.1, .inl v0.1.2))], [(a0.2.2.1, .inl (cA, v0.2.1.1, .inl v0.2.1.2))], [(a0.2.2.2.1, .inl (cA, v0.2.2.2.2.1.1, .inl v0.2.2.2.2.1.2))], [(a0.2.2.2.2.1, .inl (cA, v0.2.2.2.2.2.2.2.1.1, .inl v0.2.2.2.2.2.2.2.1.2))], [(a0.2.2.2.2.2, .inl (cA, v0.2.2.2.2.2.2.2.2.2.2.2.2.1.1, .inl v0.2.2.2.2.2.2.2.2.2.2.2.2.1.2))]] H locs := hw
  refine lv_aload_n hx hb dX11_setLevels_0 rfl (lv_at hl 0 rfl) ?_
  refine lv_iload_n hx hb dX11_setLevels_1 rfl (lv_at hl 1 rfl) ?_
  obtain ⟨o1, hso1, hsp⟩ := bnd_of hsp
  refine k_callS (nA := 1) (As := [.int p1]) (cs := []) (rs := [[(a0.1, .inr (11, [.ref a0.2.1, .ref a0.2.2.1, .int v0.2.2.1, .int v0.2.2.2.1, .ref a0.2.2.2.1, .int v0.2.2.2.2.2.1, .int v0.2.2.2.2.2.2.1, .ref a0.2.2.2.2.1, .int v0.2.2.2.2.2.2.2.2.1, .int v0.2.2.2.2.2.2.2.2.2.1, .int v0.2.2.2.2.2.2.2.2.2.2.1, .int v0.2.2.2.2.2.2.2.2.2.2.2.1, .ref a0.2.2.2.2.2, .int v0.2.2.2.2.2.2.2.2.2.2.2.2.2]))], [(a0.2.1, .inl (cA, v0.1.1, .inl v0.1.2))], [(a0.2.2.1, .inl (cA, v0.2.1.1, .inl v0.2.1.2))], [(a0.2.2.2.1, .inl (cA, v0.2.2.2.2.1.1, .inl v0.2.2.2.2.1.2))], [(a0.2.2.2.2.1, .inl (cA, v0.2.2.2.2.2.2.2.1.1, .inl v0.2.2.2.2.2.2.2.1.2))], [(a0.2.2.2.2.2, .inl (cA, v0.2.2.2.2.2.2.2.2.2.2.2.2.1.1, .inl v0.2.2.2.2.2.2.2.2.2.2.2.2.1.2))]]) (cs1 := []) (bs1 := [[(a0.1, .inr (11, [.ref a0.2.1, .ref a0.2.2.1, .int v0.2.2.1, .int v0.2.2.2.1, .ref a0.2.2.2.1, .int v0.2.2.2.2.2.1, .int v0.2.2.2.2.2.2.1, .ref a0.2.2.2.2.1, .int v0.2.2.2.2.2.2.2.2.1, .int v0.2.2.2.2.2.2.2.2.2.1, .int v0.2.2.2.2.2.2.2.2.2.2.1, .int v0.2.2.2.2.2.2.2.2.2.2.2.1, .ref a0.2.2.2.2.2, .int v0.2.2.2.2.2.2.2.2.2.2.2.2.2]))], [(a0.2.1, .inl (cA, v0.1.1, .inl v0.1.2))], [(a0.2.2.1, .inl (cA, v0.2.1.1, .inl v0.2.1.2))], [(a0.2.2.2.1, .inl (cA, v0.2.2.2.2.1.1, .inl v0.2.2.2.2.1.2))], [(a0.2.2.2.2.1, .inl (cA, v0.2.2.2.2.2.2.2.1.1, .inl v0.2.2.2.2.2.2.2.1.2))], [(a0.2.2.2.2.2, .inl (cA, v0.2.2.2.2.2.2.2.2.2.2.2.2.1.1, .inl v0.2.2.2.2.2.2.2.2.2.2.2.2.1.2))]]) (rest := [.ref a0.1]) (st1 := [.int o1, .ref a0.1]) ⟨hx, hb, hml, hown, hts⟩ hz hw hA (mX11_isLevel l D cA cR p1 o1 hso1) gX11_setLevels_X11_isLevel rfl rfl rfl (by decide +kernel) rfl ⟨Nat.le_of_ble_eq_true rfl, Nat.le_of_ble_eq_true rfl⟩ hl.1 rfl (Nat.le_of_ble_eq_true rfl) dX11_setLevels_2 ⟨Nat.le_of_ble_eq_true rfl, Nat.le_of_ble_eq_true rfl⟩ [] [0, 1, 2, 3, 4, 5] [0, 1, 2, 3, 4, 5] rfl rfl rfl rfl rfl rfl (fun H locs hw => ?_)
  obtain ⟨j5, hsj5, hkj5⟩ := bnd_of hsp
  have Jj5 : ∀ (H : Heap) (locs : List Loc) (ls : Array Slot), ww A s.heap D [[(a0.1, .inr (11, [.ref a0.2.1, .ref a0.2.2.1, .int v0.2.2.1, .int v0.2.2.2.1, .ref a0.2.2.2.1, .int v0.2.2.2.2.2.1, .int v0.2.2.2.2.2.2.1, .ref a0.2.2.2.2.1, .int v0.2.2.2.2.2.2.2.2.1, .int v0.2.2.2.2.2.2.2.2.2.1, .int v0.2.2.2.2.2.2.2.2.2.2.1, .int v0.2.2.2.2.2.2.2.2.2.2.2.1, .ref a0.2.2.2.2.2, .int v0.2.2.2.2.2.2.2.2.2.2.2.2.2]))], [(a0.2.1, .inl (cA, v0.1.1, .inl v0.1.2))], [(a0.2.2.1, .inl (cA, v0.2.1.1, .inl v0.2.1.2))], [(a0.2.2.2.1, .inl (cA, v0.2.2.2.2.1.1, .inl v0.2.2.2.2.1.2))], [(a0.2.2.2.2.1, .inl (cA, v0.2.2.2.2.2.2.2.1.1, .inl v0.2.2.2.2.2.2.2.1.2))], [(a0.2.2.2.2.2, .inl (cA, v0.2.2.2.2.2.2.2.2.2.2.2.2.1.1, .inl v0.2.2.2.2.2.2.2.2.2.2.2.2.1.2))]] H locs → lv_has ls 4 [(0, .ref a0.1), (1, .int p1), (2, .int p2)] → W p l e rX11_setLevels s m args below meth c H locs 0 0 Q (F0 m 20 ls [.int j5, .ref a0.1]) := by
    intro H locs ls hw hl
    have hsp := hkj5
    refine lv_iconst (v := 1) hx hb dX11_setLevels_20 (by decide) ?_
    have hw : ww A s.heap D [w11 cA a0 v0] H locs := hw
    obtain ⟨o6, hso6, hsp⟩ := bnd_of hsp
    refine k_callV (ci := 11) (C := RX11) (T := TX11) (N := 14) (nA := 2) (As := [.int j5, .int (1 : Int32)]) (cs := [w11 cA a0 v0]) (rs := []) (cs1 := [w11 cA a0 o6.2]) (bs1 := [w11 cA a0 o6.2]) (rest := []) (st1 := [.int o6.1]) ⟨hx, hb, hml, hown, hts⟩ hz hw hA (mX11_goes l D cA cR a0 v0 j5 (1 : Int32) o6 hso6) gX11_setLevels_X11_goes rfl rfl rfl (by decide +kernel) rfl ⟨Nat.le_of_ble_eq_true rfl, Nat.le_of_ble_eq_true rfl⟩ rfl rfl hl.1 rfl (Nat.le_of_ble_eq_true rfl) dX11_setLevels_21 ⟨Nat.le_of_ble_eq_true rfl, Nat.le_of_ble_eq_true rfl⟩ [0] [] [0] rfl rfl rfl rfl rfl rfl (fun H locs hw => ?_)
    have hw : ww A s.heap D [[(a0.1, .inr (11, [.ref a0.2.1, .ref a0.2.2.1, .int o6.2.2.2.1, .int o6.2.2.2.2.1, .ref a0.2.2.2.1, .int o6.2.2.2.2.2.2.1, .int o6.2.2.2.2.2.2.2.1, .ref a0.2.2.2.2.1, .int o6.2.2.2.2.2.2.2.2.2.1, .int o6.2.2.2.2.2.2.2.2.2.2.1, .int o6.2.2.2.2.2.2.2.2.2.2.2.1, .int o6.2.2.2.2.2.2.2.2.2.2.2.2.1, .ref a0.2.2.2.2.2, .int o6.2.2.2.2.2.2.2.2.2.2.2.2.2.2]))], [(a0.2.1, .inl (cA, o6.2.1.1, .inl o6.2.1.2))], [(a0.2.2.1, .inl (cA, o6.2.2.1.1, .inl o6.2.2.1.2))], [(a0.2.2.2.1, .inl (cA, o6.2.2.2.2.2.1.1, .inl o6.2.2.2.2.2.1.2))], [(a0.2.2.2.2.1, .inl (cA, o6.2.2.2.2.2.2.2.2.1.1, .inl o6.2.2.2.2.2.2.2.2.1.2))], [(a0.2.2.2.2.2, .inl (cA, o6.2.2.2.2.2.2.2.2.2.2.2.2.2.1.1, .inl o6.2.2.2.2.2.2.2.2.2.2.2.2.2.1.2))]] H locs := hw
    refine lv_if_ne (tgt := 29) hx hb dX11_setLevels_24 (by decide) (fun c7 => ?_) (fun c7 => ?_)
    · have hsp := iff_ c7 hsp
      refine lv_aload_n hx hb dX11_setLevels_29 rfl (lv_at hl 0 rfl) ?_
      have hw : ww A s.heap D [w11 cA a0 o6.2] H locs := hw
      obtain ⟨o8, hso8, hsp⟩ := bnd_of hsp
      refine k_callV (ci := 11) (C := RX11) (T := TX11) (N := 14) (nA := 0) (As := []) (cs := [w11 cA a0 o6.2]) (rs := []) (cs1 := [w11 cA a0 o8]) (bs1 := [w11 cA a0 o8]) (rest := []) (st1 := []) ⟨hx, hb, hml, hown, hts⟩ hz hw hA (mX11_save l D cA cR N a0 o6.2 o8 hso8) gX11_setLevels_X11_save rfl rfl rfl (by decide +kernel) rfl ⟨Nat.le_of_ble_eq_true rfl, Nat.le_of_ble_eq_true rfl⟩ rfl rfl hl.1 rfl (Nat.le_of_ble_eq_true rfl) dX11_setLevels_30 ⟨Nat.le_of_ble_eq_true rfl, Nat.le_of_ble_eq_true rfl⟩ [0] [] [0] rfl rfl rfl rfl rfl rfl (fun H locs hw => ?_)
      have hw : ww A s.heap D [[(a0.1, .inr (11, [.ref a0.2.1, .ref a0.2.2.1, .int o8.2.2.1, .int o8.2.2.2.1, .ref a0.2.2.2.1, .int o8.2.2.2.2.2.1, .int o8.2.2.2.2.2.2.1, .ref a0.2.2.2.2.1, .int o8.2.2.2.2.2.2.2.2.1, .int o8.2.2.2.2.2.2.2.2.2.1, .int o8.2.2.2.2.2.2.2.2.2.2.1, .int o8.2.2.2.2.2.2.2.2.2.2.2.1, .ref a0.2.2.2.2.2, .int o8.2.2.2.2.2.2.2.2.2.2.2.2.2]))], [(a0.2.1, .inl (cA, o8.1.1, .inl o8.1.2))], [(a0.2.2.1, .inl (cA, o8.2.1.1, .inl o8.2.1.2))], [(a0.2.2.2.1, .inl (cA, o8.2.2.2.2.1.1, .inl o8.2.2.2.2.1.2))], [(a0.2.2.2.2.1, .inl (cA, o8.2.2.2.2.2.2.2.1.1, .inl o8.2.2.2.2.2.2.2.1.2))], [(a0.2.2.2.2.2, .inl (cA, o8.2.2.2.2.2.2.2.2.2.2.2.2.1.1, .inl o8.2.2.2.2.2.2.2.2.2.2.2.2.1.2))]] H locs := hw
      refine lv_aload_n hx hb dX11_setLevels_33 rfl (lv_at hl 0 rfl) ?_
      refine k_get (ci := 11) (v := .ref a0.2.1) (C := RX11) (T := TX11) (N := 14) hx hb hts hown hz hw (by decide +kernel) 0 rfl rfl 0 (by decide) (hts (.fieldLink RX11 7 "OccupancyMonitorModel" "all" "[I") (by decide +kernel)) (fun _ h9 => h9) rfl dX11_setLevels_34 ?_
      refine lv_iconst (v := 2) hx hb dX11_setLevels_37 (by decide) ?_
      obtain ⟨g9, hsp⟩ := grd_of hsp
      refine k_iald hx hb hz hw 1 rfl g9 dX11_setLevels_38 ?_
      refine lv_istore_n (lv' := [(3, .int (o8.1.2 (2 : Int32).toNatClampNeg)), (0, .ref a0.1), (1, .int p1), (2, .int p2)]) hx hb dX11_setLevels_39 rfl hl (by decide) rfl (fun ls hl => ?_)
      refine lv_aload_n hx hb dX11_setLevels_40 rfl (lv_at hl 1 rfl) ?_
      refine k_get (ci := 11) (v := .ref a0.2.1) (C := RX11) (T := TX11) (N := 14) hx hb hts hown hz hw (by decide +kernel) 0 rfl rfl 0 (by decide) (hts (.fieldLink RX11 7 "OccupancyMonitorModel" "all" "[I") (by decide +kernel)) (fun _ h9 => h9) rfl dX11_setLevels_41 ?_
      refine lv_iconst (v := 1) hx hb dX11_setLevels_44 (by decide) ?_
      refine lv_iload_n hx hb dX11_setLevels_45 rfl (lv_at hl 2 rfl) ?_
      obtain ⟨g10, hsp⟩ := grd_of hsp
      obtain ⟨f11, ef11⟩ : ∃ u : Nat → Int32, u = (upd o8.1.2 (1 : Int32).toNatClampNeg p1) := ⟨_, rfl⟩
      have hsp := lt_of hsp ef11
      refine k_iast (bs1 := [[(a0.1, .inr (11, [.ref a0.2.1, .ref a0.2.2.1, .int o8.2.2.1, .int o8.2.2.2.1, .ref a0.2.2.2.1, .int o8.2.2.2.2.2.1, .int o8.2.2.2.2.2.2.1, .ref a0.2.2.2.2.1, .int o8.2.2.2.2.2.2.2.2.1, .int o8.2.2.2.2.2.2.2.2.2.1, .int o8.2.2.2.2.2.2.2.2.2.2.1, .int o8.2.2.2.2.2.2.2.2.2.2.2.1, .ref a0.2.2.2.2.2, .int o8.2.2.2.2.2.2.2.2.2.2.2.2.2]))], [(a0.2.1, .inl (cA, o8.1.1, .inl f11))], [(a0.2.2.1, .inl (cA, o8.2.1.1, .inl o8.2.1.2))], [(a0.2.2.2.1, .inl (cA, o8.2.2.2.2.1.1, .inl o8.2.2.2.2.1.2))], [(a0.2.2.2.2.1, .inl (cA, o8.2.2.2.2.2.2.2.1.1, .inl o8.2.2.2.2.2.2.2.1.2))], [(a0.2.2.2.2.2, .inl (cA, o8.2.2.2.2.2.2.2.2.2.2.2.2.1.1, .inl o8.2.2.2.2.2.2.2.2.2.2.2.2.1.2))]]) hx hb hz hw 1 rfl g10 dX11_setLevels_46 (by rw [ef11]; rfl) (fun H locs hw => ?_)
      refine lv_aload_n hx hb dX11_setLevels_47 rfl (lv_at hl 1 rfl) ?_
      refine k_get (ci := 11) (v := .ref a0.2.1) (C := RX11) (T := TX11) (N := 14) hx hb hts hown hz hw (by decide +kernel) 0 rfl rfl 0 (by decide) (hts (.fieldLink RX11 7 "OccupancyMonitorModel" "all" "[I") (by decide +kernel)) (fun _ h9 => h9) rfl dX11_setLevels_48 ?_
      refine lv_iconst (v := 2) hx hb dX11_setLevels_51 (by decide) ?_
      refine lv_iload_n hx hb dX11_setLevels_52 rfl (lv_at hl 3 rfl) ?_
      obtain ⟨g12, hsp⟩ := grd_of hsp
      obtain ⟨f13, ef13⟩ : ∃ u : Nat → Int32, u = (upd f11 (2 : Int32).toNatClampNeg p2) := ⟨_, rfl⟩
      have hsp := lt_of hsp ef13
      refine k_iast (bs1 := [[(a0.1, .inr (11, [.ref a0.2.1, .ref a0.2.2.1, .int o8.2.2.1, .int o8.2.2.2.1, .ref a0.2.2.2.1, .int o8.2.2.2.2.2.1, .int o8.2.2.2.2.2.2.1, .ref a0.2.2.2.2.1, .int o8.2.2.2.2.2.2.2.2.1, .int o8.2.2.2.2.2.2.2.2.2.1, .int o8.2.2.2.2.2.2.2.2.2.2.1, .int o8.2.2.2.2.2.2.2.2.2.2.2.1, .ref a0.2.2.2.2.2, .int o8.2.2.2.2.2.2.2.2.2.2.2.2.2]))], [(a0.2.1, .inl (cA, o8.1.1, .inl f13))], [(a0.2.2.1, .inl (cA, o8.2.1.1, .inl o8.2.1.2))], [(a0.2.2.2.1, .inl (cA, o8.2.2.2.2.1.1, .inl o8.2.2.2.2.1.2))], [(a0.2.2.2.2.1, .inl (cA, o8.2.2.2.2.2.2.2.1.1, .inl o8.2.2.2.2.2.2.2.1.2))], [(a0.2.2.2.2.2, .inl (cA, o8.2.2.2.2.2.2.2.2.2.2.2.2.1.1, .inl o8.2.2.2.2.2.2.2.2.2.2.2.2.1.2))]]) hx hb hz hw 1 rfl g12 dX11_setLevels_53 (by rw [ef13]; rfl) (fun H locs hw => ?_)
      refine lv_iload_n hx hb dX11_setLevels_54 rfl (lv_at hl 0 rfl) ?_
      have hsp := Option.some.inj hsp
      subst hsp
      have hw : ww A s.heap D [w11 cA a0 ((o8.1.1, f13), o8.2.1, o8.2.2.1, o8.2.2.2.1, o8.2.2.2.2.1, o8.2.2.2.2.2.1, o8.2.2.2.2.2.2.1, o8.2.2.2.2.2.2.2.1, o8.2.2.2.2.2.2.2.2.1, o8.2.2.2.2.2.2.2.2.2.1, o8.2.2.2.2.2.2.2.2.2.2.1, o8.2.2.2.2.2.2.2.2.2.2.2.1, o8.2.2.2.2.2.2.2.2.2.2.2.2.1, o8.2.2.2.2.2.2.2.2.2.2.2.2.2)] H locs := hw
      subst hQ
      exact k_iret hx hb hr hlk hw dX11_setLevels_55
    · have hsp := ift c7 hsp
      refine lv_iconst (v := 0) hx hb dX11_setLevels_27 (by decide) ?_
      have hsp := Option.some.inj hsp
      subst hsp
      have hw : ww A s.heap D [w11 cA a0 o6.2] H locs := hw
      subst hQ
      exact k_iret hx hb hr hlk hw dX11_setLevels_28
  have hsp := hsj5
  refine lv_if_eq (tgt := 19) hx hb dX11_setLevels_5 (by decide) (fun c14 => ?_) (fun c14 => ?_)
  · have hsp := ift c14 hsp
    refine lv_iconst (v := 0) hx hb dX11_setLevels_19 (by decide) ?_
    have hsp := Option.some.inj hsp
    subst hsp
    exact Jj5 _ _ _ hw (lv_sub hl [0, 1, 2] rfl)
  · have hsp := iff_ c14 hsp
    refine lv_iload_n hx hb dX11_setLevels_8 rfl (lv_at hl 2 rfl) ?_
    obtain ⟨o15, hso15, hsp⟩ := bnd_of hsp
    refine k_callS (nA := 1) (As := [.int p2]) (cs := []) (rs := [[(a0.1, .inr (11, [.ref a0.2.1, .ref a0.2.2.1, .int v0.2.2.1, .int v0.2.2.2.1, .ref a0.2.2.2.1, .int v0.2.2.2.2.2.1, .int v0.2.2.2.2.2.2.1, .ref a0.2.2.2.2.1, .int v0.2.2.2.2.2.2.2.2.1, .int v0.2.2.2.2.2.2.2.2.2.1, .int v0.2.2.2.2.2.2.2.2.2.2.1, .int v0.2.2.2.2.2.2.2.2.2.2.2.1, .ref a0.2.2.2.2.2, .int v0.2.2.2.2.2.2.2.2.2.2.2.2.2]))], [(a0.2.1, .inl (cA, v0.1.1, .inl v0.1.2))], [(a0.2.2.1, .inl (cA, v0.2.1.1, .inl v0.2.1.2))], [(a0.2.2.2.1, .inl (cA, v0.2.2.2.2.1.1, .inl v0.2.2.2.2.1.2))], [(a0.2.2.2.2.1, .inl (cA, v0.2.2.2.2.2.2.2.1.1, .inl v0.2.2.2.2.2.2.2.1.2))], [(a0.2.2.2.2.2, .inl (cA, v0.2.2.2.2.2.2.2.2.2.2.2.2.1.1, .inl v0.2.2.2.2.2.2.2.2.2.2.2.2.1.2))]]) (cs1 := []) (bs1 := [[(a0.1, .inr (11, [.ref a0.2.1, .ref a0.2.2.1, .int v0.2.2.1, .int v0.2.2.2.1, .ref a0.2.2.2.1, .int v0.2.2.2.2.2.1, .int v0.2.2.2.2.2.2.1, .ref a0.2.2.2.2.1, .int v0.2.2.2.2.2.2.2.2.1, .int v0.2.2.2.2.2.2.2.2.2.1, .int v0.2.2.2.2.2.2.2.2.2.2.1, .int v0.2.2.2.2.2.2.2.2.2.2.2.1, .ref a0.2.2.2.2.2, .int v0.2.2.2.2.2.2.2.2.2.2.2.2.2]))], [(a0.2.1, .inl (cA, v0.1.1, .inl v0.1.2))], [(a0.2.2.1, .inl (cA, v0.2.1.1, .inl v0.2.1.2))], [(a0.2.2.2.1, .inl (cA, v0.2.2.2.2.1.1, .inl v0.2.2.2.2.1.2))], [(a0.2.2.2.2.1, .inl (cA, v0.2.2.2.2.2.2.2.1.1, .inl v0.2.2.2.2.2.2.2.1.2))], [(a0.2.2.2.2.2, .inl (cA, v0.2.2.2.2.2.2.2.2.2.2.2.2.1.1, .inl v0.2.2.2.2.2.2.2.2.2.2.2.2.1.2))]]) (rest := [.ref a0.1]) (st1 := [.int o15, .ref a0.1]) ⟨hx, hb, hml, hown, hts⟩ hz hw hA (mX11_isLevel l D cA cR p2 o15 hso15) gX11_setLevels_X11_isLevel rfl rfl rfl (by decide +kernel) rfl ⟨Nat.le_of_ble_eq_true rfl, Nat.le_of_ble_eq_true rfl⟩ hl.1 rfl (Nat.le_of_ble_eq_true rfl) dX11_setLevels_9 ⟨Nat.le_of_ble_eq_true rfl, Nat.le_of_ble_eq_true rfl⟩ [] [0, 1, 2, 3, 4, 5] [0, 1, 2, 3, 4, 5] rfl rfl rfl rfl rfl rfl (fun H locs hw => ?_)
    refine lv_if_eq (tgt := 19) hx hb dX11_setLevels_12 (by decide) (fun c16 => ?_) (fun c16 => ?_)
    · have hsp := ift c16 hsp
      refine lv_iconst (v := 0) hx hb dX11_setLevels_19 (by decide) ?_
      have hsp := Option.some.inj hsp
      subst hsp
      exact Jj5 _ _ _ hw (lv_sub hl [0, 1, 2] rfl)
    · have hsp := iff_ c16 hsp
      refine lv_iconst (v := 1) hx hb dX11_setLevels_15 (by decide) ?_
      refine lv_goto (tgt := 20) hx hb dX11_setLevels_16 (by decide) ?_
      have hsp := Option.some.inj hsp
      subst hsp
      exact Jj5 _ _ _ hw (lv_sub hl [0, 1, 2] rfl)
noncomputable def qX11_setMask_55 (p2 : Int32) (p3 : Int32) (o10 : V11) : Nat → Int32 → (Nat → Int32) → Option (Int32 × (Nat → Int32))
  | 0, _, _ => none
  | n55 + 1, z55_0, z55_1 => (if p2 < z55_0 then (some (z55_0, z55_1)) else (grd (vp_in ((106 : Int32) + z55_0) o10.1.1) (lt_ (upd z55_1 ((106 : Int32) + z55_0).toNatClampNeg p3) (fun f21 => (qX11_setMask_55 p2 p3 o10 n55 (z55_0 + 1) f21)))))
noncomputable def sX11_setMask (N : Nat) (v0 : V11) (p1 : Int32) (p2 : Int32) (p3 : Int32) : Option (Int32 × V11) := ((sX11_isChannel p1).bind (fun o1 => (((if o1 = 0 then (some (0 : Int32)) else ((sX11_isChannel p2).bind (fun o23 => (if o23 = 0 then (some (0 : Int32)) else (if p2 < p1 then (some (0 : Int32)) else (some (1 : Int32))))))) : Option (Int32)).bind (fun j6 => ((sX11_isLevel p3).bind (fun o7 => ((sX11_goes v0 j6 o7).bind (fun o8 => (if o8.1 = 0 then (some ((0 : Int32), o8.2)) else ((sX11_save N o8.2).bind (fun o10 => (grd (vp_in ((106 : Int32) + p1) o10.1.1) ((qX11_setMask_55 p2 p3 o10 N p1 o10.1.2).bind (fun o18 => (some ((o10.1.2 ((106 : Int32) + p1).toNatClampNeg), ((o10.1.1, o18.2), o10.2.1, o10.2.2.1, o10.2.2.2.1, o10.2.2.2.2.1, o10.2.2.2.2.2.1, o10.2.2.2.2.2.2.1, o10.2.2.2.2.2.2.2.1, o10.2.2.2.2.2.2.2.2.1, o10.2.2.2.2.2.2.2.2.2.1, o10.2.2.2.2.2.2.2.2.2.2.1, o10.2.2.2.2.2.2.2.2.2.2.2.1, o10.2.2.2.2.2.2.2.2.2.2.2.2.1, o10.2.2.2.2.2.2.2.2.2.2.2.2.2)))))))))))))))))
abbrev rX11_setMask : Room := { frames := 2, cells := 0, slots := 0, locals := 45 }
set_option maxHeartbeats 4000000 in
set_option maxRecDepth 100000 in
theorem mX11_setMask (l : Launch) (D : va_G) (cA cR : ClassId) (N : Nat) (a0 : A11) (v0 : V11) (p1 : Int32) (p2 : Int32) (p3 : Int32) (o : Int32 × V11) (hsp : sX11_setMask N v0 p1 p2 p3 = some o) : MI l yX11_setMask wsX11_setMask rX11_setMask D cA cR [.ref a0.1, .int p1, .int p2, .int p3] [w11 cA a0 v0] (some (.int o.1)) [w11 cA a0 o.2] 0 0 := by
  have hsp : ((sX11_isChannel p1).bind (fun o1 => (((if o1 = 0 then (some (0 : Int32)) else ((sX11_isChannel p2).bind (fun o23 => (if o23 = 0 then (some (0 : Int32)) else (if p2 < p1 then (some (0 : Int32)) else (some (1 : Int32))))))) : Option (Int32)).bind (fun j6 => ((sX11_isLevel p3).bind (fun o7 => ((sX11_goes v0 j6 o7).bind (fun o8 => (if o8.1 = 0 then (some ((0 : Int32), o8.2)) else ((sX11_save N o8.2).bind (fun o10 => (grd (vp_in ((106 : Int32) + p1) o10.1.1) ((qX11_setMask_55 p2 p3 o10 N p1 o10.1.2).bind (fun o18 => (some ((o10.1.2 ((106 : Int32) + p1).toNatClampNeg), ((o10.1.1, o18.2), o10.2.1, o10.2.2.1, o10.2.2.2.1, o10.2.2.2.2.1, o10.2.2.2.2.2.1, o10.2.2.2.2.2.2.1, o10.2.2.2.2.2.2.2.1, o10.2.2.2.2.2.2.2.2.1, o10.2.2.2.2.2.2.2.2.2.1, o10.2.2.2.2.2.2.2.2.2.2.1, o10.2.2.2.2.2.2.2.2.2.2.2.1, o10.2.2.2.2.2.2.2.2.2.2.2.2.1, o10.2.2.2.2.2.2.2.2.2.2.2.2.2))))))))))))))))) = some o := hsp
  refine MI.ofW (cc := cX11_setMask) (maxL := 6) (ret := (some .int)) (by decide) rfl (Nat.le_of_ble_eq_true rfl) ?_
  intro p e s m args below meth c A ls Q H locs hx hb hr hlk hml hown hnm hts hz hA hQ hw hl
  have hl : lv_has ls 6 [(0, .ref a0.1), (1, .int p1), (2, .int p2), (3, .int p3)] := hl
  have hw : ww A s.heap D [[(a0.1, .inr (11, [.ref a0.2.1, .ref a0.2.2.1, .int v0.2.2.1, .int v0.2.2.2.1, .ref a0.2.2.2.1, .int v0.2.2.2.2.2.1, .int v0.2.2.2.2.2.2.1, .ref a0.2.2.2.2.1, .int v0.2.2.2.2.2.2.2.2.1, .int v0.2.2.2.2.2.2.2.2.2.1, .int v0.2.2.2.2.2.2.2.2.2.2.1, .int v0.2.2.2.2.2.2.2.2.2.2.2.1, .ref a0.2.2.2.2.2, .int v0.2.2.2.2.2.2.2.2.2.2.2.2.2]))], [(a0.2.1, .inl (cA, v0.1.1, .inl v0.1.2))], [(a0.2.2.1, .inl (cA, v0.2.1.1, .inl v0.2.1.2))], [(a0.2.2.2.1, .inl (cA, v0.2.2.2.2.1.1, .inl v0.2.2.2.2.1.2))], [(a0.2.2.2.2.1, .inl (cA, v0.2.2.2.2.2.2.2.1.1, .inl v0.2.2.2.2.2.2.2.1.2))], [(a0.2.2.2.2.2, .inl (cA, v0.2.2.2.2.2.2.2.2.2.2.2.2.1.1, .inl v0.2.2.2.2.2.2.2.2.2.2.2.2.1.2))]] H locs := hw
  refine lv_aload_n hx hb dX11_setMask_0 rfl (lv_at hl 0 rfl) ?_
  refine lv_iload_n hx hb dX11_setMask_1 rfl (lv_at hl 1 rfl) ?_
  obtain ⟨o1, hso1, hsp⟩ := bnd_of hsp
  refine k_callS (nA := 1) (As := [.int p1]) (cs := []) (rs := [[(a0.1, .inr (11, [.ref a0.2.1, .ref a0.2.2.1, .int v0.2.2.1, .int v0.2.2.2.1, .ref a0.2.2.2.1, .int v0.2.2.2.2.2.1, .int v0.2.2.2.2.2.2.1, .ref a0.2.2.2.2.1, .int v0.2.2.2.2.2.2.2.2.1, .int v0.2.2.2.2.2.2.2.2.2.1, .int v0.2.2.2.2.2.2.2.2.2.2.1, .int v0.2.2.2.2.2.2.2.2.2.2.2.1, .ref a0.2.2.2.2.2, .int v0.2.2.2.2.2.2.2.2.2.2.2.2.2]))], [(a0.2.1, .inl (cA, v0.1.1, .inl v0.1.2))], [(a0.2.2.1, .inl (cA, v0.2.1.1, .inl v0.2.1.2))], [(a0.2.2.2.1, .inl (cA, v0.2.2.2.2.1.1, .inl v0.2.2.2.2.1.2))], [(a0.2.2.2.2.1, .inl (cA, v0.2.2.2.2.2.2.2.1.1, .inl v0.2.2.2.2.2.2.2.1.2))], [(a0.2.2.2.2.2, .inl (cA, v0.2.2.2.2.2.2.2.2.2.2.2.2.1.1, .inl v0.2.2.2.2.2.2.2.2.2.2.2.2.1.2))]]) (cs1 := []) (bs1 := [[(a0.1, .inr (11, [.ref a0.2.1, .ref a0.2.2.1, .int v0.2.2.1, .int v0.2.2.2.1, .ref a0.2.2.2.1, .int v0.2.2.2.2.2.1, .int v0.2.2.2.2.2.2.1, .ref a0.2.2.2.2.1, .int v0.2.2.2.2.2.2.2.2.1, .int v0.2.2.2.2.2.2.2.2.2.1, .int v0.2.2.2.2.2.2.2.2.2.2.1, .int v0.2.2.2.2.2.2.2.2.2.2.2.1, .ref a0.2.2.2.2.2, .int v0.2.2.2.2.2.2.2.2.2.2.2.2.2]))], [(a0.2.1, .inl (cA, v0.1.1, .inl v0.1.2))], [(a0.2.2.1, .inl (cA, v0.2.1.1, .inl v0.2.1.2))], [(a0.2.2.2.1, .inl (cA, v0.2.2.2.2.1.1, .inl v0.2.2.2.2.1.2))], [(a0.2.2.2.2.1, .inl (cA, v0.2.2.2.2.2.2.2.1.1, .inl v0.2.2.2.2.2.2.2.1.2))], [(a0.2.2.2.2.2, .inl (cA, v0.2.2.2.2.2.2.2.2.2.2.2.2.1.1, .inl v0.2.2.2.2.2.2.2.2.2.2.2.2.1.2))]]) (rest := [.ref a0.1]) (st1 := [.int o1, .ref a0.1]) ⟨hx, hb, hml, hown, hts⟩ hz hw hA (mX11_isChannel l D cA cR p1 o1 hso1) gX11_setMask_X11_isChannel rfl rfl rfl (by decide +kernel) rfl ⟨Nat.le_of_ble_eq_true rfl, Nat.le_of_ble_eq_true rfl⟩ hl.1 rfl (Nat.le_of_ble_eq_true rfl) dX11_setMask_2 ⟨Nat.le_of_ble_eq_true rfl, Nat.le_of_ble_eq_true rfl⟩ [] [0, 1, 2, 3, 4, 5] [0, 1, 2, 3, 4, 5] rfl rfl rfl rfl rfl rfl (fun H locs hw => ?_)
  obtain ⟨j6, hsj6, hkj6⟩ := bnd_of hsp
  have Jj6 : ∀ (H : Heap) (locs : List Loc) (ls : Array Slot), ww A s.heap D [[(a0.1, .inr (11, [.ref a0.2.1, .ref a0.2.2.1, .int v0.2.2.1, .int v0.2.2.2.1, .ref a0.2.2.2.1, .int v0.2.2.2.2.2.1, .int v0.2.2.2.2.2.2.1, .ref a0.2.2.2.2.1, .int v0.2.2.2.2.2.2.2.2.1, .int v0.2.2.2.2.2.2.2.2.2.1, .int v0.2.2.2.2.2.2.2.2.2.2.1, .int v0.2.2.2.2.2.2.2.2.2.2.2.1, .ref a0.2.2.2.2.2, .int v0.2.2.2.2.2.2.2.2.2.2.2.2.2]))], [(a0.2.1, .inl (cA, v0.1.1, .inl v0.1.2))], [(a0.2.2.1, .inl (cA, v0.2.1.1, .inl v0.2.1.2))], [(a0.2.2.2.1, .inl (cA, v0.2.2.2.2.1.1, .inl v0.2.2.2.2.1.2))], [(a0.2.2.2.2.1, .inl (cA, v0.2.2.2.2.2.2.2.1.1, .inl v0.2.2.2.2.2.2.2.1.2))], [(a0.2.2.2.2.2, .inl (cA, v0.2.2.2.2.2.2.2.2.2.2.2.2.1.1, .inl v0.2.2.2.2.2.2.2.2.2.2.2.2.1.2))]] H locs → lv_has ls 6 [(0, .ref a0.1), (1, .int p1), (2, .int p2), (3, .int p3)] → W p l e rX11_setMask s m args below meth c H locs 0 0 Q (F0 m 25 ls [.int j6, .ref a0.1]) := by
    intro H locs ls hw hl
    have hsp := hkj6
    refine lv_iload_n hx hb dX11_setMask_25 rfl (lv_at hl 3 rfl) ?_
    obtain ⟨o7, hso7, hsp⟩ := bnd_of hsp
    refine k_callS (nA := 1) (As := [.int p3]) (cs := []) (rs := [[(a0.1, .inr (11, [.ref a0.2.1, .ref a0.2.2.1, .int v0.2.2.1, .int v0.2.2.2.1, .ref a0.2.2.2.1, .int v0.2.2.2.2.2.1, .int v0.2.2.2.2.2.2.1, .ref a0.2.2.2.2.1, .int v0.2.2.2.2.2.2.2.2.1, .int v0.2.2.2.2.2.2.2.2.2.1, .int v0.2.2.2.2.2.2.2.2.2.2.1, .int v0.2.2.2.2.2.2.2.2.2.2.2.1, .ref a0.2.2.2.2.2, .int v0.2.2.2.2.2.2.2.2.2.2.2.2.2]))], [(a0.2.1, .inl (cA, v0.1.1, .inl v0.1.2))], [(a0.2.2.1, .inl (cA, v0.2.1.1, .inl v0.2.1.2))], [(a0.2.2.2.1, .inl (cA, v0.2.2.2.2.1.1, .inl v0.2.2.2.2.1.2))], [(a0.2.2.2.2.1, .inl (cA, v0.2.2.2.2.2.2.2.1.1, .inl v0.2.2.2.2.2.2.2.1.2))], [(a0.2.2.2.2.2, .inl (cA, v0.2.2.2.2.2.2.2.2.2.2.2.2.1.1, .inl v0.2.2.2.2.2.2.2.2.2.2.2.2.1.2))]]) (cs1 := []) (bs1 := [[(a0.1, .inr (11, [.ref a0.2.1, .ref a0.2.2.1, .int v0.2.2.1, .int v0.2.2.2.1, .ref a0.2.2.2.1, .int v0.2.2.2.2.2.1, .int v0.2.2.2.2.2.2.1, .ref a0.2.2.2.2.1, .int v0.2.2.2.2.2.2.2.2.1, .int v0.2.2.2.2.2.2.2.2.2.1, .int v0.2.2.2.2.2.2.2.2.2.2.1, .int v0.2.2.2.2.2.2.2.2.2.2.2.1, .ref a0.2.2.2.2.2, .int v0.2.2.2.2.2.2.2.2.2.2.2.2.2]))], [(a0.2.1, .inl (cA, v0.1.1, .inl v0.1.2))], [(a0.2.2.1, .inl (cA, v0.2.1.1, .inl v0.2.1.2))], [(a0.2.2.2.1, .inl (cA, v0.2.2.2.2.1.1, .inl v0.2.2.2.2.1.2))], [(a0.2.2.2.2.1, .inl (cA, v0.2.2.2.2.2.2.2.1.1, .inl v0.2.2.2.2.2.2.2.1.2))], [(a0.2.2.2.2.2, .inl (cA, v0.2.2.2.2.2.2.2.2.2.2.2.2.1.1, .inl v0.2.2.2.2.2.2.2.2.2.2.2.2.1.2))]]) (rest := [.int j6, .ref a0.1]) (st1 := [.int o7, .int j6, .ref a0.1]) ⟨hx, hb, hml, hown, hts⟩ hz hw hA (mX11_isLevel l D cA cR p3 o7 hso7) gX11_setMask_X11_isLevel rfl rfl rfl (by decide +kernel) rfl ⟨Nat.le_of_ble_eq_true rfl, Nat.le_of_ble_eq_true rfl⟩ hl.1 rfl (Nat.le_of_ble_eq_true rfl) dX11_setMask_26 ⟨Nat.le_of_ble_eq_true rfl, Nat.le_of_ble_eq_true rfl⟩ [] [0, 1, 2, 3, 4, 5] [0, 1, 2, 3, 4, 5] rfl rfl rfl rfl rfl rfl (fun H locs hw => ?_)
    have hw : ww A s.heap D [w11 cA a0 v0] H locs := hw
    obtain ⟨o8, hso8, hsp⟩ := bnd_of hsp
    refine k_callV (ci := 11) (C := RX11) (T := TX11) (N := 14) (nA := 2) (As := [.int j6, .int o7]) (cs := [w11 cA a0 v0]) (rs := []) (cs1 := [w11 cA a0 o8.2]) (bs1 := [w11 cA a0 o8.2]) (rest := []) (st1 := [.int o8.1]) ⟨hx, hb, hml, hown, hts⟩ hz hw hA (mX11_goes l D cA cR a0 v0 j6 o7 o8 hso8) gX11_setMask_X11_goes rfl rfl rfl (by decide +kernel) rfl ⟨Nat.le_of_ble_eq_true rfl, Nat.le_of_ble_eq_true rfl⟩ rfl rfl hl.1 rfl (Nat.le_of_ble_eq_true rfl) dX11_setMask_29 ⟨Nat.le_of_ble_eq_true rfl, Nat.le_of_ble_eq_true rfl⟩ [0] [] [0] rfl rfl rfl rfl rfl rfl (fun H locs hw => ?_)
    have hw : ww A s.heap D [[(a0.1, .inr (11, [.ref a0.2.1, .ref a0.2.2.1, .int o8.2.2.2.1, .int o8.2.2.2.2.1, .ref a0.2.2.2.1, .int o8.2.2.2.2.2.2.1, .int o8.2.2.2.2.2.2.2.1, .ref a0.2.2.2.2.1, .int o8.2.2.2.2.2.2.2.2.2.1, .int o8.2.2.2.2.2.2.2.2.2.2.1, .int o8.2.2.2.2.2.2.2.2.2.2.2.1, .int o8.2.2.2.2.2.2.2.2.2.2.2.2.1, .ref a0.2.2.2.2.2, .int o8.2.2.2.2.2.2.2.2.2.2.2.2.2.2]))], [(a0.2.1, .inl (cA, o8.2.1.1, .inl o8.2.1.2))], [(a0.2.2.1, .inl (cA, o8.2.2.1.1, .inl o8.2.2.1.2))], [(a0.2.2.2.1, .inl (cA, o8.2.2.2.2.2.1.1, .inl o8.2.2.2.2.2.1.2))], [(a0.2.2.2.2.1, .inl (cA, o8.2.2.2.2.2.2.2.2.1.1, .inl o8.2.2.2.2.2.2.2.2.1.2))], [(a0.2.2.2.2.2, .inl (cA, o8.2.2.2.2.2.2.2.2.2.2.2.2.2.1.1, .inl o8.2.2.2.2.2.2.2.2.2.2.2.2.2.1.2))]] H locs := hw
    refine lv_if_ne (tgt := 37) hx hb dX11_setMask_32 (by decide) (fun c9 => ?_) (fun c9 => ?_)
    · have hsp := iff_ c9 hsp
      refine lv_aload_n hx hb dX11_setMask_37 rfl (lv_at hl 0 rfl) ?_
      have hw : ww A s.heap D [w11 cA a0 o8.2] H locs := hw
      obtain ⟨o10, hso10, hsp⟩ := bnd_of hsp
      refine k_callV (ci := 11) (C := RX11) (T := TX11) (N := 14) (nA := 0) (As := []) (cs := [w11 cA a0 o8.2]) (rs := []) (cs1 := [w11 cA a0 o10]) (bs1 := [w11 cA a0 o10]) (rest := []) (st1 := []) ⟨hx, hb, hml, hown, hts⟩ hz hw hA (mX11_save l D cA cR N a0 o8.2 o10 hso10) gX11_setMask_X11_save rfl rfl rfl (by decide +kernel) rfl ⟨Nat.le_of_ble_eq_true rfl, Nat.le_of_ble_eq_true rfl⟩ rfl rfl hl.1 rfl (Nat.le_of_ble_eq_true rfl) dX11_setMask_38 ⟨Nat.le_of_ble_eq_true rfl, Nat.le_of_ble_eq_true rfl⟩ [0] [] [0] rfl rfl rfl rfl rfl rfl (fun H locs hw => ?_)
      have hw : ww A s.heap D [[(a0.1, .inr (11, [.ref a0.2.1, .ref a0.2.2.1, .int o10.2.2.1, .int o10.2.2.2.1, .ref a0.2.2.2.1, .int o10.2.2.2.2.2.1, .int o10.2.2.2.2.2.2.1, .ref a0.2.2.2.2.1, .int o10.2.2.2.2.2.2.2.2.1, .int o10.2.2.2.2.2.2.2.2.2.1, .int o10.2.2.2.2.2.2.2.2.2.2.1, .int o10.2.2.2.2.2.2.2.2.2.2.2.1, .ref a0.2.2.2.2.2, .int o10.2.2.2.2.2.2.2.2.2.2.2.2.2]))], [(a0.2.1, .inl (cA, o10.1.1, .inl o10.1.2))], [(a0.2.2.1, .inl (cA, o10.2.1.1, .inl o10.2.1.2))], [(a0.2.2.2.1, .inl (cA, o10.2.2.2.2.1.1, .inl o10.2.2.2.2.1.2))], [(a0.2.2.2.2.1, .inl (cA, o10.2.2.2.2.2.2.2.1.1, .inl o10.2.2.2.2.2.2.2.1.2))], [(a0.2.2.2.2.2, .inl (cA, o10.2.2.2.2.2.2.2.2.2.2.2.2.1.1, .inl o10.2.2.2.2.2.2.2.2.2.2.2.2.1.2))]] H locs := hw
      refine lv_aload_n hx hb dX11_setMask_41 rfl (lv_at hl 0 rfl) ?_
      refine k_get (ci := 11) (v := .ref a0.2.1) (C := RX11) (T := TX11) (N := 14) hx hb hts hown hz hw (by decide +kernel) 0 rfl rfl 0 (by decide) (hts (.fieldLink RX11 7 "OccupancyMonitorModel" "all" "[I") (by decide +kernel)) (fun _ h9 => h9) rfl dX11_setMask_42 ?_
      refine lv_bipush (v := 106) hx hb dX11_setMask_45 (by decide) ?_
      refine lv_iload_n hx hb dX11_setMask_47 rfl (lv_at hl 1 rfl) ?_
      refine lv_iadd hx hb dX11_setMask_48 ?_
      obtain ⟨g11, hsp⟩ := grd_of hsp
      refine k_iald hx hb hz hw 1 rfl g11 dX11_setMask_49 ?_
      refine lv_istore (lv' := [(4, .int (o10.1.2 ((106 : Int32) + p1).toNatClampNeg)), (0, .ref a0.1), (1, .int p1), (2, .int p2), (3, .int p3)]) hx hb dX11_setMask_50 hl (by decide) rfl (fun ls hl => ?_)
      refine lv_iload_n hx hb dX11_setMask_52 rfl (lv_at hl 2 rfl) ?_
      refine lv_istore (lv' := [(5, .int p1), (4, .int (o10.1.2 ((106 : Int32) + p1).toNatClampNeg)), (0, .ref a0.1), (1, .int p1), (2, .int p2), (3, .int p3)]) hx hb dX11_setMask_53 hl (by decide) rfl (fun ls hl => ?_)
      have L55 : ∀ (n55 : Nat) (z55_0 : Int32) (z55_1 : (Nat → Int32)) (o18 : Int32 × (Nat → Int32)), qX11_setMask_55 p2 p3 o10 n55 z55_0 z55_1 = some o18 → ∀ (H : Heap) (locs : List Loc) (ls : Array Slot), ww A s.heap D [[(a0.1, .inr (11, [.ref a0.2.1, .ref a0.2.2.1, .int o10.2.2.1, .int o10.2.2.2.1, .ref a0.2.2.2.1, .int o10.2.2.2.2.2.1, .int o10.2.2.2.2.2.2.1, .ref a0.2.2.2.2.1, .int o10.2.2.2.2.2.2.2.2.1, .int o10.2.2.2.2.2.2.2.2.2.1, .int o10.2.2.2.2.2.2.2.2.2.2.1, .int o10.2.2.2.2.2.2.2.2.2.2.2.1, .ref a0.2.2.2.2.2, .int o10.2.2.2.2.2.2.2.2.2.2.2.2.2]))], [(a0.2.1, .inl (cA, o10.1.1, .inl z55_1))], [(a0.2.2.1, .inl (cA, o10.2.1.1, .inl o10.2.1.2))], [(a0.2.2.2.1, .inl (cA, o10.2.2.2.2.1.1, .inl o10.2.2.2.2.1.2))], [(a0.2.2.2.2.1, .inl (cA, o10.2.2.2.2.2.2.2.1.1, .inl o10.2.2.2.2.2.2.2.1.2))], [(a0.2.2.2.2.2, .inl (cA, o10.2.2.2.2.2.2.2.2.2.2.2.2.1.1, .inl o10.2.2.2.2.2.2.2.2.2.2.2.2.1.2))]] H locs → lv_has ls 6 [(0, .ref a0.1), (1, .int p1), (2, .int p2), (3, .int p3), (4, .int (o10.1.2 ((106 : Int32) + p1).toNatClampNeg)), (5, .int z55_0)] → (∀ (y78 : Int32 × (Nat → Int32)), o18 = y78 → ∀ (H : Heap) (locs : List Loc) (ls : Array Slot), ww A s.heap D [[(a0.1, .inr (11, [.ref a0.2.1, .ref a0.2.2.1, .int o10.2.2.1, .int o10.2.2.2.1, .ref a0.2.2.2.1, .int o10.2.2.2.2.2.1, .int o10.2.2.2.2.2.2.1, .ref a0.2.2.2.2.1, .int o10.2.2.2.2.2.2.2.2.1, .int o10.2.2.2.2.2.2.2.2.2.1, .int o10.2.2.2.2.2.2.2.2.2.2.1, .int o10.2.2.2.2.2.2.2.2.2.2.2.1, .ref a0.2.2.2.2.2, .int o10.2.2.2.2.2.2.2.2.2.2.2.2.2]))], [(a0.2.1, .inl (cA, o10.1.1, .inl y78.2))], [(a0.2.2.1, .inl (cA, o10.2.1.1, .inl o10.2.1.2))], [(a0.2.2.2.1, .inl (cA, o10.2.2.2.2.1.1, .inl o10.2.2.2.2.1.2))], [(a0.2.2.2.2.1, .inl (cA, o10.2.2.2.2.2.2.2.1.1, .inl o10.2.2.2.2.2.2.2.1.2))], [(a0.2.2.2.2.2, .inl (cA, o10.2.2.2.2.2.2.2.2.2.2.2.2.1.1, .inl o10.2.2.2.2.2.2.2.2.2.2.2.2.1.2))]] H locs → lv_has ls 6 [(0, .ref a0.1), (1, .int p1), (2, .int p2), (3, .int p3), (4, .int (o10.1.2 ((106 : Int32) + p1).toNatClampNeg)), (5, .int y78.1)] → W p l e rX11_setMask s m args below meth c H locs 0 0 Q (F0 m 78 ls [])) → W p l e rX11_setMask s m args below meth c H locs 0 0 Q (F0 m 55 ls []) := by
        intro n55
        induction n55 with
        | zero => intro z55_0 z55_1 o18 hsp; cases hsp
        | succ n55 ih55 =>
          intro z55_0 z55_1 o18 hsp H locs ls hw hl kx55_78
          have hsp : (if p2 < z55_0 then (some (z55_0, z55_1)) else (grd (vp_in ((106 : Int32) + z55_0) o10.1.1) (lt_ (upd z55_1 ((106 : Int32) + z55_0).toNatClampNeg p3) (fun f21 => (qX11_setMask_55 p2 p3 o10 n55 (z55_0 + 1) f21))))) = some o18 := hsp
          refine lv_iload hx hb dX11_setMask_55 (lv_at hl 5 rfl) ?_
          refine lv_iload_n hx hb dX11_setMask_57 rfl (lv_at hl 2 rfl) ?_
          refine lv_icmp_gt (tgt := 78) hx hb dX11_setMask_58 (by decide) (fun c19 => ?_) (fun c19 => ?_)
          · have hsp := ift c19 hsp
            have hsp := Option.some.inj hsp
            subst hsp
            exact kx55_78 _ rfl _ _ _ hw (lv_sub hl [0, 1, 2, 3, 4, 5] rfl)
          · have hsp := iff_ c19 hsp
            refine lv_aload_n hx hb dX11_setMask_61 rfl (lv_at hl 0 rfl) ?_
            refine k_get (ci := 11) (v := .ref a0.2.1) (C := RX11) (T := TX11) (N := 14) hx hb hts hown hz hw (by decide +kernel) 0 rfl rfl 0 (by decide) (hts (.fieldLink RX11 7 "OccupancyMonitorModel" "all" "[I") (by decide +kernel)) (fun _ h9 => h9) rfl dX11_setMask_62 ?_
            refine lv_bipush (v := 106) hx hb dX11_setMask_65 (by decide) ?_
            refine lv_iload hx hb dX11_setMask_67 (lv_at hl 5 rfl) ?_
            refine lv_iadd hx hb dX11_setMask_69 ?_
            refine lv_iload_n hx hb dX11_setMask_70 rfl (lv_at hl 3 rfl) ?_
            obtain ⟨g20, hsp⟩ := grd_of hsp
            obtain ⟨f21, ef21⟩ : ∃ u : Nat → Int32, u = (upd z55_1 ((106 : Int32) + z55_0).toNatClampNeg p3) := ⟨_, rfl⟩
            have hsp := lt_of hsp ef21
            refine k_iast (bs1 := [[(a0.1, .inr (11, [.ref a0.2.1, .ref a0.2.2.1, .int o10.2.2.1, .int o10.2.2.2.1, .ref a0.2.2.2.1, .int o10.2.2.2.2.2.1, .int o10.2.2.2.2.2.2.1, .ref a0.2.2.2.2.1, .int o10.2.2.2.2.2.2.2.2.1, .int o10.2.2.2.2.2.2.2.2.2.1, .int o10.2.2.2.2.2.2.2.2.2.2.1, .int o10.2.2.2.2.2.2.2.2.2.2.2.1, .ref a0.2.2.2.2.2, .int o10.2.2.2.2.2.2.2.2.2.2.2.2.2]))], [(a0.2.1, .inl (cA, o10.1.1, .inl f21))], [(a0.2.2.1, .inl (cA, o10.2.1.1, .inl o10.2.1.2))], [(a0.2.2.2.1, .inl (cA, o10.2.2.2.2.1.1, .inl o10.2.2.2.2.1.2))], [(a0.2.2.2.2.1, .inl (cA, o10.2.2.2.2.2.2.2.1.1, .inl o10.2.2.2.2.2.2.2.1.2))], [(a0.2.2.2.2.2, .inl (cA, o10.2.2.2.2.2.2.2.2.2.2.2.2.1.1, .inl o10.2.2.2.2.2.2.2.2.2.2.2.2.1.2))]]) hx hb hz hw 1 rfl g20 dX11_setMask_71 (by rw [ef21]; rfl) (fun H locs hw => ?_)
            refine lv_iinc (v := (z55_0 + 1)) (lv' := [(5, .int (z55_0 + 1)), (0, .ref a0.1), (1, .int p1), (2, .int p2), (3, .int p3), (4, .int (o10.1.2 ((106 : Int32) + p1).toNatClampNeg))]) hx hb dX11_setMask_72 hl (k := 5) rfl rfl (by decide) rfl (fun ls hl => ?_)
            refine lv_goto (tgt := 55) hx hb dX11_setMask_75 (by decide) ?_
            exact ih55 (z55_0 + 1) f21 _ hsp _ _ _ hw (lv_sub hl [1, 2, 3, 4, 5, 0] rfl) kx55_78
      obtain ⟨o18, hso18, hsp⟩ := bnd_of hsp
      refine L55 N p1 o10.1.2 _ hso18 _ _ _ hw (lv_sub hl [2, 3, 4, 5, 1, 0] rfl) (fun y78 hy78 H locs ls hw hl => ?_)
      cases hy78
      refine lv_iload hx hb dX11_setMask_78 (lv_at hl 4 rfl) ?_
      have hsp := Option.some.inj hsp
      subst hsp
      have hw : ww A s.heap D [w11 cA a0 ((o10.1.1, o18.2), o10.2.1, o10.2.2.1, o10.2.2.2.1, o10.2.2.2.2.1, o10.2.2.2.2.2.1, o10.2.2.2.2.2.2.1, o10.2.2.2.2.2.2.2.1, o10.2.2.2.2.2.2.2.2.1, o10.2.2.2.2.2.2.2.2.2.1, o10.2.2.2.2.2.2.2.2.2.2.1, o10.2.2.2.2.2.2.2.2.2.2.2.1, o10.2.2.2.2.2.2.2.2.2.2.2.2.1, o10.2.2.2.2.2.2.2.2.2.2.2.2.2)] H locs := hw
      subst hQ
      exact k_iret hx hb hr hlk hw dX11_setMask_80
    · have hsp := ift c9 hsp
      refine lv_iconst (v := 0) hx hb dX11_setMask_35 (by decide) ?_
      have hsp := Option.some.inj hsp
      subst hsp
      have hw : ww A s.heap D [w11 cA a0 o8.2] H locs := hw
      subst hQ
      exact k_iret hx hb hr hlk hw dX11_setMask_36
  have hsp := hsj6
  refine lv_if_eq (tgt := 24) hx hb dX11_setMask_5 (by decide) (fun c22 => ?_) (fun c22 => ?_)
  · have hsp := ift c22 hsp
    refine lv_iconst (v := 0) hx hb dX11_setMask_24 (by decide) ?_
    have hsp := Option.some.inj hsp
    subst hsp
    exact Jj6 _ _ _ hw (lv_sub hl [0, 1, 2, 3] rfl)
  · have hsp := iff_ c22 hsp
    refine lv_iload_n hx hb dX11_setMask_8 rfl (lv_at hl 2 rfl) ?_
    obtain ⟨o23, hso23, hsp⟩ := bnd_of hsp
    refine k_callS (nA := 1) (As := [.int p2]) (cs := []) (rs := [[(a0.1, .inr (11, [.ref a0.2.1, .ref a0.2.2.1, .int v0.2.2.1, .int v0.2.2.2.1, .ref a0.2.2.2.1, .int v0.2.2.2.2.2.1, .int v0.2.2.2.2.2.2.1, .ref a0.2.2.2.2.1, .int v0.2.2.2.2.2.2.2.2.1, .int v0.2.2.2.2.2.2.2.2.2.1, .int v0.2.2.2.2.2.2.2.2.2.2.1, .int v0.2.2.2.2.2.2.2.2.2.2.2.1, .ref a0.2.2.2.2.2, .int v0.2.2.2.2.2.2.2.2.2.2.2.2.2]))], [(a0.2.1, .inl (cA, v0.1.1, .inl v0.1.2))], [(a0.2.2.1, .inl (cA, v0.2.1.1, .inl v0.2.1.2))], [(a0.2.2.2.1, .inl (cA, v0.2.2.2.2.1.1, .inl v0.2.2.2.2.1.2))], [(a0.2.2.2.2.1, .inl (cA, v0.2.2.2.2.2.2.2.1.1, .inl v0.2.2.2.2.2.2.2.1.2))], [(a0.2.2.2.2.2, .inl (cA, v0.2.2.2.2.2.2.2.2.2.2.2.2.1.1, .inl v0.2.2.2.2.2.2.2.2.2.2.2.2.1.2))]]) (cs1 := []) (bs1 := [[(a0.1, .inr (11, [.ref a0.2.1, .ref a0.2.2.1, .int v0.2.2.1, .int v0.2.2.2.1, .ref a0.2.2.2.1, .int v0.2.2.2.2.2.1, .int v0.2.2.2.2.2.2.1, .ref a0.2.2.2.2.1, .int v0.2.2.2.2.2.2.2.2.1, .int v0.2.2.2.2.2.2.2.2.2.1, .int v0.2.2.2.2.2.2.2.2.2.2.1, .int v0.2.2.2.2.2.2.2.2.2.2.2.1, .ref a0.2.2.2.2.2, .int v0.2.2.2.2.2.2.2.2.2.2.2.2.2]))], [(a0.2.1, .inl (cA, v0.1.1, .inl v0.1.2))], [(a0.2.2.1, .inl (cA, v0.2.1.1, .inl v0.2.1.2))], [(a0.2.2.2.1, .inl (cA, v0.2.2.2.2.1.1, .inl v0.2.2.2.2.1.2))], [(a0.2.2.2.2.1, .inl (cA, v0.2.2.2.2.2.2.2.1.1, .inl v0.2.2.2.2.2.2.2.1.2))], [(a0.2.2.2.2.2, .inl (cA, v0.2.2.2.2.2.2.2.2.2.2.2.2.1.1, .inl v0.2.2.2.2.2.2.2.2.2.2.2.2.1.2))]]) (rest := [.ref a0.1]) (st1 := [.int o23, .ref a0.1]) ⟨hx, hb, hml, hown, hts⟩ hz hw hA (mX11_isChannel l D cA cR p2 o23 hso23) gX11_setMask_X11_isChannel rfl rfl rfl (by decide +kernel) rfl ⟨Nat.le_of_ble_eq_true rfl, Nat.le_of_ble_eq_true rfl⟩ hl.1 rfl (Nat.le_of_ble_eq_true rfl) dX11_setMask_9 ⟨Nat.le_of_ble_eq_true rfl, Nat.le_of_ble_eq_true rfl⟩ [] [0, 1, 2, 3, 4, 5] [0, 1, 2, 3, 4, 5] rfl rfl rfl rfl rfl rfl (fun H locs hw => ?_)
    refine lv_if_eq (tgt := 24) hx hb dX11_setMask_12 (by decide) (fun c24 => ?_) (fun c24 => ?_)
    · have hsp := ift c24 hsp
      refine lv_iconst (v := 0) hx hb dX11_setMask_24 (by decide) ?_
      have hsp := Option.some.inj hsp
      subst hsp
      exact Jj6 _ _ _ hw (lv_sub hl [0, 1, 2, 3] rfl)
    · have hsp := iff_ c24 hsp
      refine lv_iload_n hx hb dX11_setMask_15 rfl (lv_at hl 1 rfl) ?_
      refine lv_iload_n hx hb dX11_setMask_16 rfl (lv_at hl 2 rfl) ?_
      refine lv_icmp_gt (tgt := 24) hx hb dX11_setMask_17 (by decide) (fun c25 => ?_) (fun c25 => ?_)
      · have hsp := ift c25 hsp
        refine lv_iconst (v := 0) hx hb dX11_setMask_24 (by decide) ?_
        have hsp := Option.some.inj hsp
        subst hsp
        exact Jj6 _ _ _ hw (lv_sub hl [0, 1, 2, 3] rfl)
      · have hsp := iff_ c25 hsp
        refine lv_iconst (v := 1) hx hb dX11_setMask_20 (by decide) ?_
        refine lv_goto (tgt := 25) hx hb dX11_setMask_21 (by decide) ?_
        have hsp := Option.some.inj hsp
        subst hsp
        exact Jj6 _ _ _ hw (lv_sub hl [0, 1, 2, 3] rfl)
