noncomputable def qX11_firstOf_2 (v0 : V11) : Nat → Int32 → Option (Int32)
  | 0, _ => none
  | n2 + 1, z2_0 => (grd (vp_in z2_0 v0.2.2.2.2.2.2.2.2.2.2.2.2.1.1) (if (v0.2.2.2.2.2.2.2.2.2.2.2.2.1.2 z2_0.toNatClampNeg) = (-1 : Int32) then (some z2_0) else (grd (vp_in z2_0 v0.2.2.2.2.2.2.2.2.2.2.2.2.1.1) (qX11_firstOf_2 v0 n2 (v0.2.2.2.2.2.2.2.2.2.2.2.2.1.2 z2_0.toNatClampNeg)))))
noncomputable def sX11_firstOf (N : Nat) (v0 : V11) (p1 : Int32) : Option (Int32) := ((qX11_firstOf_2 v0 N p1).bind (fun o7 => (some o7)))
abbrev rX11_firstOf : Room := { frames := 0, cells := 0, slots := 0, locals := 0 }
set_option maxHeartbeats 4000000 in
set_option maxRecDepth 100000 in
theorem mX11_firstOf (l : Launch) (D : va_G) (cA cR : ClassId) (N : Nat) (a0 : A11) (v0 : V11) (p1 : Int32) (o : Int32) (hsp : sX11_firstOf N v0 p1 = some o) : MI l yX11_firstOf wsX11_firstOf rX11_firstOf D cA cR [.ref a0.1, .int p1] [w11 cA a0 v0] (some (.int o)) [w11 cA a0 v0] 0 0 := by
  have hsp : ((qX11_firstOf_2 v0 N p1).bind (fun o7 => (some o7))) = some o := hsp
  refine MI.ofW (cc := cX11_firstOf) (maxL := 3) (ret := (some .int)) (by decide) rfl (Nat.le_of_ble_eq_true rfl) ?_
  intro p e s m args below meth c A ls Q H locs hx hb hr hlk hml hown hnm hts hz hA hQ hw hl
  have hl : lv_has ls 3 [(0, .ref a0.1), (1, .int p1)] := hl
  have hw : ww A s.heap D [[(a0.1, .inr (11, [.ref a0.2.1, .ref a0.2.2.1, .int v0.2.2.1, .int v0.2.2.2.1, .ref a0.2.2.2.1, .int v0.2.2.2.2.2.1, .int v0.2.2.2.2.2.2.1, .ref a0.2.2.2.2.1, .int v0.2.2.2.2.2.2.2.2.1, .int v0.2.2.2.2.2.2.2.2.2.1, .int v0.2.2.2.2.2.2.2.2.2.2.1, .int v0.2.2.2.2.2.2.2.2.2.2.2.1, .ref a0.2.2.2.2.2, .int v0.2.2.2.2.2.2.2.2.2.2.2.2.2]))], [(a0.2.1, .inl (cA, v0.1.1, .inl v0.1.2))], [(a0.2.2.1, .inl (cA, v0.2.1.1, .inl v0.2.1.2))], [(a0.2.2.2.1, .inl (cA, v0.2.2.2.2.1.1, .inl v0.2.2.2.2.1.2))], [(a0.2.2.2.2.1, .inl (cA, v0.2.2.2.2.2.2.2.1.1, .inl v0.2.2.2.2.2.2.2.1.2))], [(a0.2.2.2.2.2, .inl (cA, v0.2.2.2.2.2.2.2.2.2.2.2.2.1.1, .inl v0.2.2.2.2.2.2.2.2.2.2.2.2.1.2))]] H locs := hw
  refine lv_iload_n hx hb dX11_firstOf_0 rfl (lv_at hl 1 rfl) ?_
  refine lv_istore_n (lv' := [(2, .int p1), (0, .ref a0.1), (1, .int p1)]) hx hb dX11_firstOf_1 rfl hl (by decide) rfl (fun ls hl => ?_)
  have L2 : ∀ (n2 : Nat) (z2_0 : Int32) (o7 : Int32), qX11_firstOf_2 v0 n2 z2_0 = some o7 → ∀ (H : Heap) (locs : List Loc) (ls : Array Slot), ww A s.heap D [[(a0.1, .inr (11, [.ref a0.2.1, .ref a0.2.2.1, .int v0.2.2.1, .int v0.2.2.2.1, .ref a0.2.2.2.1, .int v0.2.2.2.2.2.1, .int v0.2.2.2.2.2.2.1, .ref a0.2.2.2.2.1, .int v0.2.2.2.2.2.2.2.2.1, .int v0.2.2.2.2.2.2.2.2.2.1, .int v0.2.2.2.2.2.2.2.2.2.2.1, .int v0.2.2.2.2.2.2.2.2.2.2.2.1, .ref a0.2.2.2.2.2, .int v0.2.2.2.2.2.2.2.2.2.2.2.2.2]))], [(a0.2.1, .inl (cA, v0.1.1, .inl v0.1.2))], [(a0.2.2.1, .inl (cA, v0.2.1.1, .inl v0.2.1.2))], [(a0.2.2.2.1, .inl (cA, v0.2.2.2.2.1.1, .inl v0.2.2.2.2.1.2))], [(a0.2.2.2.2.1, .inl (cA, v0.2.2.2.2.2.2.2.1.1, .inl v0.2.2.2.2.2.2.2.1.2))], [(a0.2.2.2.2.2, .inl (cA, v0.2.2.2.2.2.2.2.2.2.2.2.2.1.1, .inl v0.2.2.2.2.2.2.2.2.2.2.2.2.1.2))]] H locs → lv_has ls 3 [(0, .ref a0.1), (1, .int p1), (2, .int z2_0)] → (∀ (y22 : Int32), o7 = y22 → ∀ (H : Heap) (locs : List Loc) (ls : Array Slot), ww A s.heap D [[(a0.1, .inr (11, [.ref a0.2.1, .ref a0.2.2.1, .int v0.2.2.1, .int v0.2.2.2.1, .ref a0.2.2.2.1, .int v0.2.2.2.2.2.1, .int v0.2.2.2.2.2.2.1, .ref a0.2.2.2.2.1, .int v0.2.2.2.2.2.2.2.2.1, .int v0.2.2.2.2.2.2.2.2.2.1, .int v0.2.2.2.2.2.2.2.2.2.2.1, .int v0.2.2.2.2.2.2.2.2.2.2.2.1, .ref a0.2.2.2.2.2, .int v0.2.2.2.2.2.2.2.2.2.2.2.2.2]))], [(a0.2.1, .inl (cA, v0.1.1, .inl v0.1.2))], [(a0.2.2.1, .inl (cA, v0.2.1.1, .inl v0.2.1.2))], [(a0.2.2.2.1, .inl (cA, v0.2.2.2.2.1.1, .inl v0.2.2.2.2.1.2))], [(a0.2.2.2.2.1, .inl (cA, v0.2.2.2.2.2.2.2.1.1, .inl v0.2.2.2.2.2.2.2.1.2))], [(a0.2.2.2.2.2, .inl (cA, v0.2.2.2.2.2.2.2.2.2.2.2.2.1.1, .inl v0.2.2.2.2.2.2.2.2.2.2.2.2.1.2))]] H locs → lv_has ls 3 [(0, .ref a0.1), (1, .int p1), (2, .int y22)] → W p l e rX11_firstOf s m args below meth c H locs 0 0 Q (F0 m 22 ls [])) → W p l e rX11_firstOf s m args below meth c H locs 0 0 Q (F0 m 2 ls []) := by
    intro n2
    induction n2 with
    | zero => intro z2_0 o7 hsp; cases hsp
    | succ n2 ih2 =>
      intro z2_0 o7 hsp H locs ls hw hl kx2_22
      have hsp : (grd (vp_in z2_0 v0.2.2.2.2.2.2.2.2.2.2.2.2.1.1) (if (v0.2.2.2.2.2.2.2.2.2.2.2.2.1.2 z2_0.toNatClampNeg) = (-1 : Int32) then (some z2_0) else (grd (vp_in z2_0 v0.2.2.2.2.2.2.2.2.2.2.2.2.1.1) (qX11_firstOf_2 v0 n2 (v0.2.2.2.2.2.2.2.2.2.2.2.2.1.2 z2_0.toNatClampNeg))))) = some o7 := hsp
      refine lv_aload_n hx hb dX11_firstOf_2 rfl (lv_at hl 0 rfl) ?_
      refine k_get (ci := 11) (v := .ref a0.2.2.2.2.2) (C := RX11) (T := TX11) (N := 14) hx hb hts hown hz hw (by decide +kernel) 0 rfl rfl 12 (by decide) (hts (.fieldLink RX11 22 "OccupancyMonitorModel" "before" "[I") (by decide +kernel)) (fun _ h9 => h9) rfl dX11_firstOf_3 ?_
      refine lv_iload_n hx hb dX11_firstOf_6 rfl (lv_at hl 2 rfl) ?_
      obtain ⟨g8, hsp⟩ := grd_of hsp
      refine k_iald hx hb hz hw 5 rfl g8 dX11_firstOf_7 ?_
      refine lv_iconst (v := -1) hx hb dX11_firstOf_8 (by decide) ?_
      refine lv_icmp_eq (tgt := 22) hx hb dX11_firstOf_9 (by decide) (fun c9 => ?_) (fun c9 => ?_)
      · have hsp := ift c9 hsp
        have hsp := Option.some.inj hsp
        subst hsp
        exact kx2_22 _ rfl _ _ _ hw (lv_sub hl [0, 1, 2] rfl)
      · have hsp := iff_ c9 hsp
        refine lv_aload_n hx hb dX11_firstOf_12 rfl (lv_at hl 0 rfl) ?_
        refine k_get (ci := 11) (v := .ref a0.2.2.2.2.2) (C := RX11) (T := TX11) (N := 14) hx hb hts hown hz hw (by decide +kernel) 0 rfl rfl 12 (by decide) (hts (.fieldLink RX11 22 "OccupancyMonitorModel" "before" "[I") (by decide +kernel)) (fun _ h9 => h9) rfl dX11_firstOf_13 ?_
        refine lv_iload_n hx hb dX11_firstOf_16 rfl (lv_at hl 2 rfl) ?_
        obtain ⟨g10, hsp⟩ := grd_of hsp
        refine k_iald hx hb hz hw 5 rfl g10 dX11_firstOf_17 ?_
        refine lv_istore_n (lv' := [(2, .int (v0.2.2.2.2.2.2.2.2.2.2.2.2.1.2 z2_0.toNatClampNeg)), (0, .ref a0.1), (1, .int p1)]) hx hb dX11_firstOf_18 rfl hl (by decide) rfl (fun ls hl => ?_)
        refine lv_goto (tgt := 2) hx hb dX11_firstOf_19 (by decide) ?_
        exact ih2 (v0.2.2.2.2.2.2.2.2.2.2.2.2.1.2 z2_0.toNatClampNeg) _ hsp _ _ _ hw (lv_sub hl [1, 2, 0] rfl) kx2_22
  obtain ⟨o7, hso7, hsp⟩ := bnd_of hsp
  refine L2 N p1 _ hso7 _ _ _ hw (lv_sub hl [1, 2, 0] rfl) (fun y22 hy22 H locs ls hw hl => ?_)
  cases hy22
  refine lv_iload_n hx hb dX11_firstOf_22 rfl (lv_at hl 2 rfl) ?_
  have hsp := Option.some.inj hsp
  subst hsp
  have hw : ww A s.heap D [w11 cA a0 v0] H locs := hw
  subst hQ
  exact k_iret hx hb hr hlk hw dX11_firstOf_23
noncomputable def sX11_events (v0 : V11) : Option (Int32 × V11) := (grd (vp_in (9 : Int32) v0.1.1) (some ((v0.1.2 (9 : Int32).toNatClampNeg), (v0.1, v0.2.1, v0.2.2.1, (0 : Int32), v0.2.2.2.2.1, v0.2.2.2.2.2.1, v0.2.2.2.2.2.2.1, v0.2.2.2.2.2.2.2.1, v0.2.2.2.2.2.2.2.2.1, v0.2.2.2.2.2.2.2.2.2.1, v0.2.2.2.2.2.2.2.2.2.2.1, v0.2.2.2.2.2.2.2.2.2.2.2.1, v0.2.2.2.2.2.2.2.2.2.2.2.2.1, v0.2.2.2.2.2.2.2.2.2.2.2.2.2))))
abbrev rX11_events : Room := { frames := 0, cells := 0, slots := 0, locals := 0 }
set_option maxHeartbeats 4000000 in
set_option maxRecDepth 100000 in
theorem mX11_events (l : Launch) (D : va_G) (cA cR : ClassId) (a0 : A11) (v0 : V11) (o : Int32 × V11) (hsp : sX11_events v0 = some o) : MI l yX11_events wsX11_events rX11_events D cA cR [.ref a0.1] [w11 cA a0 v0] (some (.int o.1)) [w11 cA a0 o.2] 0 0 := by
  have hsp : (grd (vp_in (9 : Int32) v0.1.1) (some ((v0.1.2 (9 : Int32).toNatClampNeg), (v0.1, v0.2.1, v0.2.2.1, (0 : Int32), v0.2.2.2.2.1, v0.2.2.2.2.2.1, v0.2.2.2.2.2.2.1, v0.2.2.2.2.2.2.2.1, v0.2.2.2.2.2.2.2.2.1, v0.2.2.2.2.2.2.2.2.2.1, v0.2.2.2.2.2.2.2.2.2.2.1, v0.2.2.2.2.2.2.2.2.2.2.2.1, v0.2.2.2.2.2.2.2.2.2.2.2.2.1, v0.2.2.2.2.2.2.2.2.2.2.2.2.2)))) = some o := hsp
  refine MI.ofW (cc := cX11_events) (maxL := 1) (ret := (some .int)) (by decide) rfl (Nat.le_of_ble_eq_true rfl) ?_
  intro p e s m args below meth c A ls Q H locs hx hb hr hlk hml hown hnm hts hz hA hQ hw hl
  have hl : lv_has ls 1 [(0, .ref a0.1)] := hl
  have hw : ww A s.heap D [[(a0.1, .inr (11, [.ref a0.2.1, .ref a0.2.2.1, .int v0.2.2.1, .int v0.2.2.2.1, .ref a0.2.2.2.1, .int v0.2.2.2.2.2.1, .int v0.2.2.2.2.2.2.1, .ref a0.2.2.2.2.1, .int v0.2.2.2.2.2.2.2.2.1, .int v0.2.2.2.2.2.2.2.2.2.1, .int v0.2.2.2.2.2.2.2.2.2.2.1, .int v0.2.2.2.2.2.2.2.2.2.2.2.1, .ref a0.2.2.2.2.2, .int v0.2.2.2.2.2.2.2.2.2.2.2.2.2]))], [(a0.2.1, .inl (cA, v0.1.1, .inl v0.1.2))], [(a0.2.2.1, .inl (cA, v0.2.1.1, .inl v0.2.1.2))], [(a0.2.2.2.1, .inl (cA, v0.2.2.2.2.1.1, .inl v0.2.2.2.2.1.2))], [(a0.2.2.2.2.1, .inl (cA, v0.2.2.2.2.2.2.2.1.1, .inl v0.2.2.2.2.2.2.2.1.2))], [(a0.2.2.2.2.2, .inl (cA, v0.2.2.2.2.2.2.2.2.2.2.2.2.1.1, .inl v0.2.2.2.2.2.2.2.2.2.2.2.2.1.2))]] H locs := hw
  refine lv_aload_n hx hb dX11_events_0 rfl (lv_at hl 0 rfl) ?_
  refine lv_iconst (v := 0) hx hb dX11_events_1 (by decide) ?_
  refine k_put (ci := 11) (v := .int (0 : Int32)) (ty := .int) (C := RX11) (T := TX11) (N := 14) (bs1 := [[(a0.1, .inr (11, [.ref a0.2.1, .ref a0.2.2.1, .int v0.2.2.1, .int (0 : Int32), .ref a0.2.2.2.1, .int v0.2.2.2.2.2.1, .int v0.2.2.2.2.2.2.1, .ref a0.2.2.2.2.1, .int v0.2.2.2.2.2.2.2.2.1, .int v0.2.2.2.2.2.2.2.2.2.1, .int v0.2.2.2.2.2.2.2.2.2.2.1, .int v0.2.2.2.2.2.2.2.2.2.2.2.1, .ref a0.2.2.2.2.2, .int v0.2.2.2.2.2.2.2.2.2.2.2.2.2]))], [(a0.2.1, .inl (cA, v0.1.1, .inl v0.1.2))], [(a0.2.2.1, .inl (cA, v0.2.1.1, .inl v0.2.1.2))], [(a0.2.2.2.1, .inl (cA, v0.2.2.2.2.1.1, .inl v0.2.2.2.2.1.2))], [(a0.2.2.2.2.1, .inl (cA, v0.2.2.2.2.2.2.2.1.1, .inl v0.2.2.2.2.2.2.2.1.2))], [(a0.2.2.2.2.2, .inl (cA, v0.2.2.2.2.2.2.2.2.2.2.2.2.1.1, .inl v0.2.2.2.2.2.2.2.2.2.2.2.2.1.2))]]) hx hb hts hown hz hw (by decide +kernel) tyX11 tyX11_ok nmX11 0 rfl rfl 3 (by decide) (hts (.fieldLink RX11 28 "OccupancyMonitorModel" "thrown" "I") (by decide +kernel)) (fun _ h9 => h9) rfl (by decide +kernel) rfl rfl (Nat.le_of_ble_eq_true rfl) dX11_events_2 rfl (fun H locs hw => ?_)
  refine lv_aload_n hx hb dX11_events_5 rfl (lv_at hl 0 rfl) ?_
  refine k_get (ci := 11) (v := .ref a0.2.1) (C := RX11) (T := TX11) (N := 14) hx hb hts hown hz hw (by decide +kernel) 0 rfl rfl 0 (by decide) (hts (.fieldLink RX11 7 "OccupancyMonitorModel" "all" "[I") (by decide +kernel)) (fun _ h9 => h9) rfl dX11_events_6 ?_
  refine lv_bipush (v := 9) hx hb dX11_events_9 (by decide) ?_
  obtain ⟨g1, hsp⟩ := grd_of hsp
  refine k_iald hx hb hz hw 1 rfl g1 dX11_events_11 ?_
  have hsp := Option.some.inj hsp
  subst hsp
  have hw : ww A s.heap D [w11 cA a0 (v0.1, v0.2.1, v0.2.2.1, (0 : Int32), v0.2.2.2.2.1, v0.2.2.2.2.2.1, v0.2.2.2.2.2.2.1, v0.2.2.2.2.2.2.2.1, v0.2.2.2.2.2.2.2.2.1, v0.2.2.2.2.2.2.2.2.2.1, v0.2.2.2.2.2.2.2.2.2.2.1, v0.2.2.2.2.2.2.2.2.2.2.2.1, v0.2.2.2.2.2.2.2.2.2.2.2.2.1, v0.2.2.2.2.2.2.2.2.2.2.2.2.2)] H locs := hw
  subst hQ
  exact k_iret hx hb hr hlk hw dX11_events_12
noncomputable def sX11_isEvent (v0 : V11) (p1 : Int32) : Option (Int32) := (grd (vp_in (9 : Int32) v0.1.1) ((sX11_in p1.toInt64 (0 : Int64) (((v0.1.2 (9 : Int32).toNatClampNeg) - (1 : Int32)).toInt64)).bind (fun o2 => (grd (isz o2) (some o2)))))
abbrev rX11_isEvent : Room := { frames := 1, cells := 0, slots := 0, locals := 25 }
set_option maxHeartbeats 4000000 in
set_option maxRecDepth 100000 in
theorem mX11_isEvent (l : Launch) (D : va_G) (cA cR : ClassId) (a0 : A11) (v0 : V11) (p1 : Int32) (o : Int32) (hsp : sX11_isEvent v0 p1 = some o) : MI l yX11_isEvent wsX11_isEvent rX11_isEvent D cA cR [.ref a0.1, .int p1] [w11 cA a0 v0] (some (.int o)) [w11 cA a0 v0] 0 0 := by
  have hsp : (grd (vp_in (9 : Int32) v0.1.1) ((sX11_in p1.toInt64 (0 : Int64) (((v0.1.2 (9 : Int32).toNatClampNeg) - (1 : Int32)).toInt64)).bind (fun o2 => (grd (isz o2) (some o2))))) = some o := hsp
  refine MI.ofW (cc := cX11_isEvent) (maxL := 2) (ret := (some .boolean)) (by decide) rfl (Nat.le_of_ble_eq_true rfl) ?_
  intro p e s m args below meth c A ls Q H locs hx hb hr hlk hml hown hnm hts hz hA hQ hw hl
  have hl : lv_has ls 2 [(0, .ref a0.1), (1, .int p1)] := hl
  have hw : ww A s.heap D [[(a0.1, .inr (11, [.ref a0.2.1, .ref a0.2.2.1, .int v0.2.2.1, .int v0.2.2.2.1, .ref a0.2.2.2.1, .int v0.2.2.2.2.2.1, .int v0.2.2.2.2.2.2.1, .ref a0.2.2.2.2.1, .int v0.2.2.2.2.2.2.2.2.1, .int v0.2.2.2.2.2.2.2.2.2.1, .int v0.2.2.2.2.2.2.2.2.2.2.1, .int v0.2.2.2.2.2.2.2.2.2.2.2.1, .ref a0.2.2.2.2.2, .int v0.2.2.2.2.2.2.2.2.2.2.2.2.2]))], [(a0.2.1, .inl (cA, v0.1.1, .inl v0.1.2))], [(a0.2.2.1, .inl (cA, v0.2.1.1, .inl v0.2.1.2))], [(a0.2.2.2.1, .inl (cA, v0.2.2.2.2.1.1, .inl v0.2.2.2.2.1.2))], [(a0.2.2.2.2.1, .inl (cA, v0.2.2.2.2.2.2.2.1.1, .inl v0.2.2.2.2.2.2.2.1.2))], [(a0.2.2.2.2.2, .inl (cA, v0.2.2.2.2.2.2.2.2.2.2.2.2.1.1, .inl v0.2.2.2.2.2.2.2.2.2.2.2.2.1.2))]] H locs := hw
  refine lv_iload_n hx hb dX11_isEvent_0 rfl (lv_at hl 1 rfl) ?_
  refine lv_i2l hx hb dX11_isEvent_1 rfl ?_
  refine lv_lconst (v := 0) hx hb dX11_isEvent_2 (by decide) ?_
  refine lv_aload_n hx hb dX11_isEvent_3 rfl (lv_at hl 0 rfl) ?_
  refine k_get (ci := 11) (v := .ref a0.2.1) (C := RX11) (T := TX11) (N := 14) hx hb hts hown hz hw (by decide +kernel) 0 rfl rfl 0 (by decide) (hts (.fieldLink RX11 7 "OccupancyMonitorModel" "all" "[I") (by decide +kernel)) (fun _ h9 => h9) rfl dX11_isEvent_4 ?_
  refine lv_bipush (v := 9) hx hb dX11_isEvent_7 (by decide) ?_
  obtain ⟨g1, hsp⟩ := grd_of hsp
  refine k_iald hx hb hz hw 1 rfl g1 dX11_isEvent_9 ?_
  refine lv_iconst (v := 1) hx hb dX11_isEvent_10 (by decide) ?_
  refine lv_isub hx hb dX11_isEvent_11 ?_
  refine lv_i2l hx hb dX11_isEvent_12 rfl ?_
  obtain ⟨o2, hso2, hsp⟩ := bnd_of hsp
  refine k_callS (nA := 3) (As := [.long p1.toInt64, .long (0 : Int64), .long ((v0.1.2 (9 : Int32).toNatClampNeg) - (1 : Int32)).toInt64]) (cs := []) (rs := [[(a0.1, .inr (11, [.ref a0.2.1, .ref a0.2.2.1, .int v0.2.2.1, .int v0.2.2.2.1, .ref a0.2.2.2.1, .int v0.2.2.2.2.2.1, .int v0.2.2.2.2.2.2.1, .ref a0.2.2.2.2.1, .int v0.2.2.2.2.2.2.2.2.1, .int v0.2.2.2.2.2.2.2.2.2.1, .int v0.2.2.2.2.2.2.2.2.2.2.1, .int v0.2.2.2.2.2.2.2.2.2.2.2.1, .ref a0.2.2.2.2.2, .int v0.2.2.2.2.2.2.2.2.2.2.2.2.2]))], [(a0.2.1, .inl (cA, v0.1.1, .inl v0.1.2))], [(a0.2.2.1, .inl (cA, v0.2.1.1, .inl v0.2.1.2))], [(a0.2.2.2.1, .inl (cA, v0.2.2.2.2.1.1, .inl v0.2.2.2.2.1.2))], [(a0.2.2.2.2.1, .inl (cA, v0.2.2.2.2.2.2.2.1.1, .inl v0.2.2.2.2.2.2.2.1.2))], [(a0.2.2.2.2.2, .inl (cA, v0.2.2.2.2.2.2.2.2.2.2.2.2.1.1, .inl v0.2.2.2.2.2.2.2.2.2.2.2.2.1.2))]]) (cs1 := []) (bs1 := [[(a0.1, .inr (11, [.ref a0.2.1, .ref a0.2.2.1, .int v0.2.2.1, .int v0.2.2.2.1, .ref a0.2.2.2.1, .int v0.2.2.2.2.2.1, .int v0.2.2.2.2.2.2.1, .ref a0.2.2.2.2.1, .int v0.2.2.2.2.2.2.2.2.1, .int v0.2.2.2.2.2.2.2.2.2.1, .int v0.2.2.2.2.2.2.2.2.2.2.1, .int v0.2.2.2.2.2.2.2.2.2.2.2.1, .ref a0.2.2.2.2.2, .int v0.2.2.2.2.2.2.2.2.2.2.2.2.2]))], [(a0.2.1, .inl (cA, v0.1.1, .inl v0.1.2))], [(a0.2.2.1, .inl (cA, v0.2.1.1, .inl v0.2.1.2))], [(a0.2.2.2.1, .inl (cA, v0.2.2.2.2.1.1, .inl v0.2.2.2.2.1.2))], [(a0.2.2.2.2.1, .inl (cA, v0.2.2.2.2.2.2.2.1.1, .inl v0.2.2.2.2.2.2.2.1.2))], [(a0.2.2.2.2.2, .inl (cA, v0.2.2.2.2.2.2.2.2.2.2.2.2.1.1, .inl v0.2.2.2.2.2.2.2.2.2.2.2.2.1.2))]]) (rest := []) (st1 := [.int o2]) ⟨hx, hb, hml, hown, hts⟩ hz hw hA (mX11_in l D cA cR p1.toInt64 (0 : Int64) (((v0.1.2 (9 : Int32).toNatClampNeg) - (1 : Int32)).toInt64) o2 hso2) gX11_isEvent_X11_in rfl rfl rfl (by decide +kernel) rfl ⟨Nat.le_of_ble_eq_true rfl, Nat.le_of_ble_eq_true rfl⟩ hl.1 rfl (Nat.le_of_ble_eq_true rfl) dX11_isEvent_13 ⟨Nat.le_of_ble_eq_true rfl, Nat.le_of_ble_eq_true rfl⟩ [] [0, 1, 2, 3, 4, 5] [0, 1, 2, 3, 4, 5] rfl rfl rfl rfl rfl rfl (fun H locs hw => ?_)
  obtain ⟨g3, hsp⟩ := grd_of hsp
  have hsp := Option.some.inj hsp
  subst hsp
  have hw : ww A s.heap D [w11 cA a0 v0] H locs := hw
  subst hQ
  exact k_zret (v := o2) hx hb hr hlk g3 hw dX11_isEvent_16
noncomputable def sX11_eventNow (N : Nat) (v0 : V11) (p1 : Int32) (p2 : Int32) : Option (Int32) := (if (5 : Int32) ≤ p2 then (if p2 = (5 : Int32) then (grd (vp_in p1 v0.2.2.2.2.2.2.2.2.2.2.2.2.1.1) (some (v0.2.2.2.2.2.2.2.2.2.2.2.2.1.2 p1.toNatClampNeg))) else ((sX11_firstOf N v0 p1).bind (fun o3 => (some o3)))) else ((sX11_eventAt p1 p2).bind (fun o5 => (grd (vp_in o5 v0.1.1) (some (v0.1.2 o5.toNatClampNeg))))))
abbrev rX11_eventNow : Room := { frames := 1, cells := 0, slots := 0, locals := 22 }
set_option maxHeartbeats 4000000 in
set_option maxRecDepth 100000 in
theorem mX11_eventNow (l : Launch) (D : va_G) (cA cR : ClassId) (N : Nat) (a0 : A11) (v0 : V11) (p1 : Int32) (p2 : Int32) (o : Int32) (hsp : sX11_eventNow N v0 p1 p2 = some o) : MI l yX11_eventNow wsX11_eventNow rX11_eventNow D cA cR [.ref a0.1, .int p1, .int p2] [w11 cA a0 v0] (some (.int o)) [w11 cA a0 v0] 0 0 := by
  have hsp : (if (5 : Int32) ≤ p2 then (if p2 = (5 : Int32) then (grd (vp_in p1 v0.2.2.2.2.2.2.2.2.2.2.2.2.1.1) (some (v0.2.2.2.2.2.2.2.2.2.2.2.2.1.2 p1.toNatClampNeg))) else ((sX11_firstOf N v0 p1).bind (fun o3 => (some o3)))) else ((sX11_eventAt p1 p2).bind (fun o5 => (grd (vp_in o5 v0.1.1) (some (v0.1.2 o5.toNatClampNeg)))))) = some o := hsp
  refine MI.ofW (cc := cX11_eventNow) (maxL := 3) (ret := (some .int)) (by decide) rfl (Nat.le_of_ble_eq_true rfl) ?_
  intro p e s m args below meth c A ls Q H locs hx hb hr hlk hml hown hnm hts hz hA hQ hw hl
  have hl : lv_has ls 3 [(0, .ref a0.1), (1, .int p1), (2, .int p2)] := hl
  have hw : ww A s.heap D [[(a0.1, .inr (11, [.ref a0.2.1, .ref a0.2.2.1, .int v0.2.2.1, .int v0.2.2.2.1, .ref a0.2.2.2.1, .int v0.2.2.2.2.2.1, .int v0.2.2.2.2.2.2.1, .ref a0.2.2.2.2.1, .int v0.2.2.2.2.2.2.2.2.1, .int v0.2.2.2.2.2.2.2.2.2.1, .int v0.2.2.2.2.2.2.2.2.2.2.1, .int v0.2.2.2.2.2.2.2.2.2.2.2.1, .ref a0.2.2.2.2.2, .int v0.2.2.2.2.2.2.2.2.2.2.2.2.2]))], [(a0.2.1, .inl (cA, v0.1.1, .inl v0.1.2))], [(a0.2.2.1, .inl (cA, v0.2.1.1, .inl v0.2.1.2))], [(a0.2.2.2.1, .inl (cA, v0.2.2.2.2.1.1, .inl v0.2.2.2.2.1.2))], [(a0.2.2.2.2.1, .inl (cA, v0.2.2.2.2.2.2.2.1.1, .inl v0.2.2.2.2.2.2.2.1.2))], [(a0.2.2.2.2.2, .inl (cA, v0.2.2.2.2.2.2.2.2.2.2.2.2.1.1, .inl v0.2.2.2.2.2.2.2.2.2.2.2.2.1.2))]] H locs := hw
  refine lv_iload_n hx hb dX11_eventNow_0 rfl (lv_at hl 2 rfl) ?_
  refine lv_iconst (v := 5) hx hb dX11_eventNow_1 (by decide) ?_
  refine lv_icmp_ge (tgt := 18) hx hb dX11_eventNow_2 (by decide) (fun c1 => ?_) (fun c1 => ?_)
  · have hsp := ift c1 hsp
    refine lv_iload_n hx hb dX11_eventNow_18 rfl (lv_at hl 2 rfl) ?_
    refine lv_iconst (v := 5) hx hb dX11_eventNow_19 (by decide) ?_
    refine lv_icmp_ne (tgt := 32) hx hb dX11_eventNow_20 (by decide) (fun c2 => ?_) (fun c2 => ?_)
    · have hsp := iff_ c2 hsp
      refine lv_aload_n hx hb dX11_eventNow_32 rfl (lv_at hl 0 rfl) ?_
      refine lv_iload_n hx hb dX11_eventNow_33 rfl (lv_at hl 1 rfl) ?_
      have hw : ww A s.heap D [w11 cA a0 v0] H locs := hw
      obtain ⟨o3, hso3, hsp⟩ := bnd_of hsp
      refine k_callV (ci := 11) (C := RX11) (T := TX11) (N := 14) (nA := 1) (As := [.int p1]) (cs := [w11 cA a0 v0]) (rs := []) (cs1 := [w11 cA a0 v0]) (bs1 := [w11 cA a0 v0]) (rest := []) (st1 := [.int o3]) ⟨hx, hb, hml, hown, hts⟩ hz hw hA (mX11_firstOf l D cA cR N a0 v0 p1 o3 hso3) gX11_eventNow_X11_firstOf rfl rfl rfl (by decide +kernel) rfl ⟨Nat.le_of_ble_eq_true rfl, Nat.le_of_ble_eq_true rfl⟩ rfl rfl hl.1 rfl (Nat.le_of_ble_eq_true rfl) dX11_eventNow_34 ⟨Nat.le_of_ble_eq_true rfl, Nat.le_of_ble_eq_true rfl⟩ [0] [] [0] rfl rfl rfl rfl rfl rfl (fun H locs hw => ?_)
      have hw : ww A s.heap D [[(a0.1, .inr (11, [.ref a0.2.1, .ref a0.2.2.1, .int v0.2.2.1, .int v0.2.2.2.1, .ref a0.2.2.2.1, .int v0.2.2.2.2.2.1, .int v0.2.2.2.2.2.2.1, .ref a0.2.2.2.2.1, .int v0.2.2.2.2.2.2.2.2.1, .int v0.2.2.2.2.2.2.2.2.2.1, .int v0.2.2.2.2.2.2.2.2.2.2.1, .int v0.2.2.2.2.2.2.2.2.2.2.2.1, .ref a0.2.2.2.2.2, .int v0.2.2.2.2.2.2.2.2.2.2.2.2.2]))], [(a0.2.1, .inl (cA, v0.1.1, .inl v0.1.2))], [(a0.2.2.1, .inl (cA, v0.2.1.1, .inl v0.2.1.2))], [(a0.2.2.2.1, .inl (cA, v0.2.2.2.2.1.1, .inl v0.2.2.2.2.1.2))], [(a0.2.2.2.2.1, .inl (cA, v0.2.2.2.2.2.2.2.1.1, .inl v0.2.2.2.2.2.2.2.1.2))], [(a0.2.2.2.2.2, .inl (cA, v0.2.2.2.2.2.2.2.2.2.2.2.2.1.1, .inl v0.2.2.2.2.2.2.2.2.2.2.2.2.1.2))]] H locs := hw
      have hsp := Option.some.inj hsp
      subst hsp
      have hw : ww A s.heap D [w11 cA a0 v0] H locs := hw
      subst hQ
      exact k_iret hx hb hr hlk hw dX11_eventNow_37
    · have hsp := ift c2 hsp
      refine lv_aload_n hx hb dX11_eventNow_23 rfl (lv_at hl 0 rfl) ?_
      refine k_get (ci := 11) (v := .ref a0.2.2.2.2.2) (C := RX11) (T := TX11) (N := 14) hx hb hts hown hz hw (by decide +kernel) 0 rfl rfl 12 (by decide) (hts (.fieldLink RX11 22 "OccupancyMonitorModel" "before" "[I") (by decide +kernel)) (fun _ h9 => h9) rfl dX11_eventNow_24 ?_
      refine lv_iload_n hx hb dX11_eventNow_27 rfl (lv_at hl 1 rfl) ?_
      obtain ⟨g4, hsp⟩ := grd_of hsp
      refine k_iald hx hb hz hw 5 rfl g4 dX11_eventNow_28 ?_
      refine lv_goto (tgt := 37) hx hb dX11_eventNow_29 (by decide) ?_
      have hsp := Option.some.inj hsp
      subst hsp
      have hw : ww A s.heap D [w11 cA a0 v0] H locs := hw
      subst hQ
      exact k_iret hx hb hr hlk hw dX11_eventNow_37
  · have hsp := iff_ c1 hsp
    refine lv_aload_n hx hb dX11_eventNow_5 rfl (lv_at hl 0 rfl) ?_
    refine k_get (ci := 11) (v := .ref a0.2.1) (C := RX11) (T := TX11) (N := 14) hx hb hts hown hz hw (by decide +kernel) 0 rfl rfl 0 (by decide) (hts (.fieldLink RX11 7 "OccupancyMonitorModel" "all" "[I") (by decide +kernel)) (fun _ h9 => h9) rfl dX11_eventNow_6 ?_
    refine lv_iload_n hx hb dX11_eventNow_9 rfl (lv_at hl 1 rfl) ?_
    refine lv_iload_n hx hb dX11_eventNow_10 rfl (lv_at hl 2 rfl) ?_
    obtain ⟨o5, hso5, hsp⟩ := bnd_of hsp
    refine k_callS (nA := 2) (As := [.int p1, .int p2]) (cs := []) (rs := [[(a0.1, .inr (11, [.ref a0.2.1, .ref a0.2.2.1, .int v0.2.2.1, .int v0.2.2.2.1, .ref a0.2.2.2.1, .int v0.2.2.2.2.2.1, .int v0.2.2.2.2.2.2.1, .ref a0.2.2.2.2.1, .int v0.2.2.2.2.2.2.2.2.1, .int v0.2.2.2.2.2.2.2.2.2.1, .int v0.2.2.2.2.2.2.2.2.2.2.1, .int v0.2.2.2.2.2.2.2.2.2.2.2.1, .ref a0.2.2.2.2.2, .int v0.2.2.2.2.2.2.2.2.2.2.2.2.2]))], [(a0.2.1, .inl (cA, v0.1.1, .inl v0.1.2))], [(a0.2.2.1, .inl (cA, v0.2.1.1, .inl v0.2.1.2))], [(a0.2.2.2.1, .inl (cA, v0.2.2.2.2.1.1, .inl v0.2.2.2.2.1.2))], [(a0.2.2.2.2.1, .inl (cA, v0.2.2.2.2.2.2.2.1.1, .inl v0.2.2.2.2.2.2.2.1.2))], [(a0.2.2.2.2.2, .inl (cA, v0.2.2.2.2.2.2.2.2.2.2.2.2.1.1, .inl v0.2.2.2.2.2.2.2.2.2.2.2.2.1.2))]]) (cs1 := []) (bs1 := [[(a0.1, .inr (11, [.ref a0.2.1, .ref a0.2.2.1, .int v0.2.2.1, .int v0.2.2.2.1, .ref a0.2.2.2.1, .int v0.2.2.2.2.2.1, .int v0.2.2.2.2.2.2.1, .ref a0.2.2.2.2.1, .int v0.2.2.2.2.2.2.2.2.1, .int v0.2.2.2.2.2.2.2.2.2.1, .int v0.2.2.2.2.2.2.2.2.2.2.1, .int v0.2.2.2.2.2.2.2.2.2.2.2.1, .ref a0.2.2.2.2.2, .int v0.2.2.2.2.2.2.2.2.2.2.2.2.2]))], [(a0.2.1, .inl (cA, v0.1.1, .inl v0.1.2))], [(a0.2.2.1, .inl (cA, v0.2.1.1, .inl v0.2.1.2))], [(a0.2.2.2.1, .inl (cA, v0.2.2.2.2.1.1, .inl v0.2.2.2.2.1.2))], [(a0.2.2.2.2.1, .inl (cA, v0.2.2.2.2.2.2.2.1.1, .inl v0.2.2.2.2.2.2.2.1.2))], [(a0.2.2.2.2.2, .inl (cA, v0.2.2.2.2.2.2.2.2.2.2.2.2.1.1, .inl v0.2.2.2.2.2.2.2.2.2.2.2.2.1.2))]]) (rest := [.ref a0.2.1]) (st1 := [.int o5, .ref a0.2.1]) ⟨hx, hb, hml, hown, hts⟩ hz hw hA (mX11_eventAt l D cA cR p1 p2 o5 hso5) gX11_eventNow_X11_eventAt rfl rfl rfl (by decide +kernel) rfl ⟨Nat.le_of_ble_eq_true rfl, Nat.le_of_ble_eq_true rfl⟩ hl.1 rfl (Nat.le_of_ble_eq_true rfl) dX11_eventNow_11 ⟨Nat.le_of_ble_eq_true rfl, Nat.le_of_ble_eq_true rfl⟩ [] [0, 1, 2, 3, 4, 5] [0, 1, 2, 3, 4, 5] rfl rfl rfl rfl rfl rfl (fun H locs hw => ?_)
    obtain ⟨g6, hsp⟩ := grd_of hsp
    refine k_iald hx hb hz hw 1 rfl g6 dX11_eventNow_14 ?_
    refine lv_goto (tgt := 37) hx hb dX11_eventNow_15 (by decide) ?_
    have hsp := Option.some.inj hsp
    subst hsp
    have hw : ww A s.heap D [w11 cA a0 v0] H locs := hw
    subst hQ
    exact k_iret hx hb hr hlk hw dX11_eventNow_37
noncomputable def sX11_event (N : Nat) (v0 : V11) (p1 : Int32) (p2 : Int32) : Option (Int32 × V11) := ((sX11_isEvent v0 p1).bind (fun o1 => ((sX11_in p2.toInt64 (0 : Int64) (6 : Int64)).bind (fun o2 => ((sX11_goes v0 o1 o2).bind (fun o3 => (if o3.1 = 0 then (some ((0 : Int32), o3.2)) else ((sX11_laysChains N o3.2).bind (fun o5 => ((sX11_eventNow N o5 p1 p2).bind (fun o6 => (some (o6, o5)))))))))))))
abbrev rX11_event : Room := { frames := 2, cells := 0, slots := 0, locals := 50 }
set_option maxHeartbeats 4000000 in
set_option maxRecDepth 100000 in
theorem mX11_event (l : Launch) (D : va_G) (cA cR : ClassId) (N : Nat) (a0 : A11) (v0 : V11) (p1 : Int32) (p2 : Int32) (o : Int32 × V11) (hsp : sX11_event N v0 p1 p2 = some o) : MI l yX11_event wsX11_event rX11_event D cA cR [.ref a0.1, .int p1, .int p2] [w11 cA a0 v0] (some (.int o.1)) [w11 cA a0 o.2] 0 0 := by
  have hsp : ((sX11_isEvent v0 p1).bind (fun o1 => ((sX11_in p2.toInt64 (0 : Int64) (6 : Int64)).bind (fun o2 => ((sX11_goes v0 o1 o2).bind (fun o3 => (if o3.1 = 0 then (some ((0 : Int32), o3.2)) else ((sX11_laysChains N o3.2).bind (fun o5 => ((sX11_eventNow N o5 p1 p2).bind (fun o6 => (some (o6, o5))))))))))))) = some o := hsp
  refine MI.ofW (cc := cX11_event) (maxL := 3) (ret := (some .int)) (by decide) rfl (Nat.le_of_ble_eq_true rfl) ?_
  intro p e s m args below meth c A ls Q H locs hx hb hr hlk hml hown hnm hts hz hA hQ hw hl
  have hl : lv_has ls 3 [(0, .ref a0.1), (1, .int p1), (2, .int p2)] := hl
  have hw : ww A s.heap D [w11 cA a0 v0] H locs := hw
  refine lv_aload_n hx hb dX11_event_0 rfl (lv_at hl 0 rfl) ?_
  refine lv_aload_n hx hb dX11_event_1 rfl (lv_at hl 0 rfl) ?_
  refine lv_iload_n hx hb dX11_event_2 rfl (lv_at hl 1 rfl) ?_
  obtain ⟨o1, hso1, hsp⟩ := bnd_of hsp
  refine k_callV (ci := 11) (C := RX11) (T := TX11) (N := 14) (nA := 1) (As := [.int p1]) (cs := [w11 cA a0 v0]) (rs := []) (cs1 := [w11 cA a0 v0]) (bs1 := [w11 cA a0 v0]) (rest := [.ref a0.1]) (st1 := [.int o1, .ref a0.1]) ⟨hx, hb, hml, hown, hts⟩ hz hw hA (mX11_isEvent l D cA cR a0 v0 p1 o1 hso1) gX11_event_X11_isEvent rfl rfl rfl (by decide +kernel) rfl ⟨Nat.le_of_ble_eq_true rfl, Nat.le_of_ble_eq_true rfl⟩ rfl rfl hl.1 rfl (Nat.le_of_ble_eq_true rfl) dX11_event_3 ⟨Nat.le_of_ble_eq_true rfl, Nat.le_of_ble_eq_true rfl⟩ [0] [] [0] rfl rfl rfl rfl rfl rfl (fun H locs hw => ?_)
  refine lv_iload_n hx hb dX11_event_6 rfl (lv_at hl 2 rfl) ?_
  refine lv_i2l hx hb dX11_event_7 rfl ?_
  refine lv_lconst (v := 0) hx hb dX11_event_8 (by decide) ?_
  refine lv_ldc2 hx hb hown (hts (.constantLong RX11 168 6) (by decide +kernel)) dX11_event_9 ?_
  obtain ⟨o2, hso2, hsp⟩ := bnd_of hsp
  refine k_callS (nA := 3) (As := [.long p2.toInt64, .long (0 : Int64), .long (6 : Int64)]) (cs := []) (rs := [w11 cA a0 v0]) (cs1 := []) (bs1 := [w11 cA a0 v0]) (rest := [.int o1, .ref a0.1]) (st1 := [.int o2, .int o1, .ref a0.1]) ⟨hx, hb, hml, hown, hts⟩ hz hw hA (mX11_in l D cA cR p2.toInt64 (0 : Int64) (6 : Int64) o2 hso2) gX11_event_X11_in rfl rfl rfl (by decide +kernel) rfl ⟨Nat.le_of_ble_eq_true rfl, Nat.le_of_ble_eq_true rfl⟩ hl.1 rfl (Nat.le_of_ble_eq_true rfl) dX11_event_12 ⟨Nat.le_of_ble_eq_true rfl, Nat.le_of_ble_eq_true rfl⟩ [] [0] [0] rfl rfl rfl rfl rfl rfl (fun H locs hw => ?_)
  obtain ⟨o3, hso3, hsp⟩ := bnd_of hsp
  refine k_callV (ci := 11) (C := RX11) (T := TX11) (N := 14) (nA := 2) (As := [.int o1, .int o2]) (cs := [w11 cA a0 v0]) (rs := []) (cs1 := [w11 cA a0 o3.2]) (bs1 := [w11 cA a0 o3.2]) (rest := []) (st1 := [.int o3.1]) ⟨hx, hb, hml, hown, hts⟩ hz hw hA (mX11_goes l D cA cR a0 v0 o1 o2 o3 hso3) gX11_event_X11_goes rfl rfl rfl (by decide +kernel) rfl ⟨Nat.le_of_ble_eq_true rfl, Nat.le_of_ble_eq_true rfl⟩ rfl rfl hl.1 rfl (Nat.le_of_ble_eq_true rfl) dX11_event_15 ⟨Nat.le_of_ble_eq_true rfl, Nat.le_of_ble_eq_true rfl⟩ [0] [] [0] rfl rfl rfl rfl rfl rfl (fun H locs hw => ?_)
  refine lv_if_ne (tgt := 23) hx hb dX11_event_18 (by decide) (fun c4 => ?_) (fun c4 => ?_)
  · have hsp := iff_ c4 hsp
    refine lv_aload_n hx hb dX11_event_23 rfl (lv_at hl 0 rfl) ?_
    obtain ⟨o5, hso5, hsp⟩ := bnd_of hsp
    refine k_callV (ci := 11) (C := RX11) (T := TX11) (N := 14) (nA := 0) (As := []) (cs := [w11 cA a0 o3.2]) (rs := []) (cs1 := [w11 cA a0 o5]) (bs1 := [w11 cA a0 o5]) (rest := []) (st1 := []) ⟨hx, hb, hml, hown, hts⟩ hz hw hA (mX11_laysChains l D cA cR N a0 o3.2 o5 hso5) gX11_event_X11_laysChains rfl rfl rfl (by decide +kernel) rfl ⟨Nat.le_of_ble_eq_true rfl, Nat.le_of_ble_eq_true rfl⟩ rfl rfl hl.1 rfl (Nat.le_of_ble_eq_true rfl) dX11_event_24 ⟨Nat.le_of_ble_eq_true rfl, Nat.le_of_ble_eq_true rfl⟩ [0] [] [0] rfl rfl rfl rfl rfl rfl (fun H locs hw => ?_)
    refine lv_aload_n hx hb dX11_event_27 rfl (lv_at hl 0 rfl) ?_
    refine lv_iload_n hx hb dX11_event_28 rfl (lv_at hl 1 rfl) ?_
    refine lv_iload_n hx hb dX11_event_29 rfl (lv_at hl 2 rfl) ?_
    obtain ⟨o6, hso6, hsp⟩ := bnd_of hsp
    refine k_callV (ci := 11) (C := RX11) (T := TX11) (N := 14) (nA := 2) (As := [.int p1, .int p2]) (cs := [w11 cA a0 o5]) (rs := []) (cs1 := [w11 cA a0 o5]) (bs1 := [w11 cA a0 o5]) (rest := []) (st1 := [.int o6]) ⟨hx, hb, hml, hown, hts⟩ hz hw hA (mX11_eventNow l D cA cR N a0 o5 p1 p2 o6 hso6) gX11_event_X11_eventNow rfl rfl rfl (by decide +kernel) rfl ⟨Nat.le_of_ble_eq_true rfl, Nat.le_of_ble_eq_true rfl⟩ rfl rfl hl.1 rfl (Nat.le_of_ble_eq_true rfl) dX11_event_30 ⟨Nat.le_of_ble_eq_true rfl, Nat.le_of_ble_eq_true rfl⟩ [0] [] [0] rfl rfl rfl rfl rfl rfl (fun H locs hw => ?_)
    have hsp := Option.some.inj hsp
    subst hsp
    have hw : ww A s.heap D [w11 cA a0 o5] H locs := hw
    subst hQ
    exact k_iret hx hb hr hlk hw dX11_event_33
  · have hsp := ift c4 hsp
    refine lv_iconst (v := 0) hx hb dX11_event_21 (by decide) ?_
    have hsp := Option.some.inj hsp
    subst hsp
    have hw : ww A s.heap D [w11 cA a0 o3.2] H locs := hw
    subst hQ
    exact k_iret hx hb hr hlk hw dX11_event_22
noncomputable def qX11_lengthOf_16 (N : Nat) (v0 : V11) (o1 : Int32) : Nat → Int32 → Int32 → Int32 → Option (Int32 × Int32 × Int32)
  | 0, _, _, _ => none
  | n16 + 1, z16_0, z16_1, z16_2 => (grd (vp_in (9 : Int32) v0.1.1) (if (v0.1.2 (9 : Int32).toNatClampNeg) ≤ z16_1 then (some (z16_0, z16_1, z16_2)) else ((sX11_firstOf N (v0.1, v0.2.1, v0.2.2.1, v0.2.2.2.1, v0.2.2.2.2.1, v0.2.2.2.2.2.1, v0.2.2.2.2.2.2.1, v0.2.2.2.2.2.2.2.1, v0.2.2.2.2.2.2.2.2.1, v0.2.2.2.2.2.2.2.2.2.1, v0.2.2.2.2.2.2.2.2.2.2.1, v0.2.2.2.2.2.2.2.2.2.2.2.1, v0.2.2.2.2.2.2.2.2.2.2.2.2.1, z16_2) z16_1).bind (fun o29 => (((if o29 = o1 then (some (1 : Int32)) else (some (0 : Int32))) : Option (Int32)).bind (fun j31 => (((if j31 = 0 then (some (0 : Int32)) else (some (1 : Int32))) : Option (Int32)).bind (fun j33 => (((if j31 = 0 then (some z16_2) else (some z16_1)) : Option (Int32)).bind (fun j35 => (qX11_lengthOf_16 N v0 o1 n16 (z16_0 + j33) (z16_1 + 1) j35)))))))))))
noncomputable def sX11_lengthOf (N : Nat) (v0 : V11) (p1 : Int32) : Option (Int32 × V11) := ((sX11_firstOf N v0 p1).bind (fun o1 => ((qX11_lengthOf_16 N v0 o1 N (0 : Int32) (0 : Int32) o1).bind (fun o26 => (some (o26.1, (v0.1, v0.2.1, v0.2.2.1, v0.2.2.2.1, v0.2.2.2.2.1, v0.2.2.2.2.2.1, v0.2.2.2.2.2.2.1, v0.2.2.2.2.2.2.2.1, v0.2.2.2.2.2.2.2.2.1, v0.2.2.2.2.2.2.2.2.2.1, v0.2.2.2.2.2.2.2.2.2.2.1, v0.2.2.2.2.2.2.2.2.2.2.2.1, v0.2.2.2.2.2.2.2.2.2.2.2.2.1, o26.2.2)))))))
abbrev rX11_lengthOf : Room := { frames := 1, cells := 0, slots := 0, locals := 22 }
set_option maxHeartbeats 4000000 in
set_option maxRecDepth 100000 in
theorem mX11_lengthOf (l : Launch) (D : va_G) (cA cR : ClassId) (N : Nat) (a0 : A11) (v0 : V11) (p1 : Int32) (o : Int32 × V11) (hsp : sX11_lengthOf N v0 p1 = some o) : MI l yX11_lengthOf wsX11_lengthOf rX11_lengthOf D cA cR [.ref a0.1, .int p1] [w11 cA a0 v0] (some (.int o.1)) [w11 cA a0 o.2] 0 0 := by
  have hsp : ((sX11_firstOf N v0 p1).bind (fun o1 => ((qX11_lengthOf_16 N v0 o1 N (0 : Int32) (0 : Int32) o1).bind (fun o26 => (some (o26.1, (v0.1, v0.2.1, v0.2.2.1, v0.2.2.2.1, v0.2.2.2.2.1, v0.2.2.2.2.2.1, v0.2.2.2.2.2.2.1, v0.2.2.2.2.2.2.2.1, v0.2.2.2.2.2.2.2.2.1, v0.2.2.2.2.2.2.2.2.2.1, v0.2.2.2.2.2.2.2.2.2.2.1, v0.2.2.2.2.2.2.2.2.2.2.2.1, v0.2.2.2.2.2.2.2.2.2.2.2.2.1, o26.2.2))))))) = some o := hsp
  refine MI.ofW (cc := cX11_lengthOf) (maxL := 6) (ret := (some .int)) (by decide) rfl (Nat.le_of_ble_eq_true rfl) ?_
  intro p e s m args below meth c A ls Q H locs hx hb hr hlk hml hown hnm hts hz hA hQ hw hl
  have hl : lv_has ls 6 [(0, .ref a0.1), (1, .int p1)] := hl
  have hw : ww A s.heap D [[(a0.1, .inr (11, [.ref a0.2.1, .ref a0.2.2.1, .int v0.2.2.1, .int v0.2.2.2.1, .ref a0.2.2.2.1, .int v0.2.2.2.2.2.1, .int v0.2.2.2.2.2.2.1, .ref a0.2.2.2.2.1, .int v0.2.2.2.2.2.2.2.2.1, .int v0.2.2.2.2.2.2.2.2.2.1, .int v0.2.2.2.2.2.2.2.2.2.2.1, .int v0.2.2.2.2.2.2.2.2.2.2.2.1, .ref a0.2.2.2.2.2, .int v0.2.2.2.2.2.2.2.2.2.2.2.2.2]))], [(a0.2.1, .inl (cA, v0.1.1, .inl v0.1.2))], [(a0.2.2.1, .inl (cA, v0.2.1.1, .inl v0.2.1.2))], [(a0.2.2.2.1, .inl (cA, v0.2.2.2.2.1.1, .inl v0.2.2.2.2.1.2))], [(a0.2.2.2.2.1, .inl (cA, v0.2.2.2.2.2.2.2.1.1, .inl v0.2.2.2.2.2.2.2.1.2))], [(a0.2.2.2.2.2, .inl (cA, v0.2.2.2.2.2.2.2.2.2.2.2.2.1.1, .inl v0.2.2.2.2.2.2.2.2.2.2.2.2.1.2))]] H locs := hw
  refine lv_aload_n hx hb dX11_lengthOf_0 rfl (lv_at hl 0 rfl) ?_
  refine lv_iload_n hx hb dX11_lengthOf_1 rfl (lv_at hl 1 rfl) ?_
  have hw : ww A s.heap D [w11 cA a0 v0] H locs := hw
  obtain ⟨o1, hso1, hsp⟩ := bnd_of hsp
  refine k_callV (ci := 11) (C := RX11) (T := TX11) (N := 14) (nA := 1) (As := [.int p1]) (cs := [w11 cA a0 v0]) (rs := []) (cs1 := [w11 cA a0 v0]) (bs1 := [w11 cA a0 v0]) (rest := []) (st1 := [.int o1]) ⟨hx, hb, hml, hown, hts⟩ hz hw hA (mX11_firstOf l D cA cR N a0 v0 p1 o1 hso1) gX11_lengthOf_X11_firstOf rfl rfl rfl (by decide +kernel) rfl ⟨Nat.le_of_ble_eq_true rfl, Nat.le_of_ble_eq_true rfl⟩ rfl rfl hl.1 rfl (Nat.le_of_ble_eq_true rfl) dX11_lengthOf_2 ⟨Nat.le_of_ble_eq_true rfl, Nat.le_of_ble_eq_true rfl⟩ [0] [] [0] rfl rfl rfl rfl rfl rfl (fun H locs hw => ?_)
  have hw : ww A s.heap D [[(a0.1, .inr (11, [.ref a0.2.1, .ref a0.2.2.1, .int v0.2.2.1, .int v0.2.2.2.1, .ref a0.2.2.2.1, .int v0.2.2.2.2.2.1, .int v0.2.2.2.2.2.2.1, .ref a0.2.2.2.2.1, .int v0.2.2.2.2.2.2.2.2.1, .int v0.2.2.2.2.2.2.2.2.2.1, .int v0.2.2.2.2.2.2.2.2.2.2.1, .int v0.2.2.2.2.2.2.2.2.2.2.2.1, .ref a0.2.2.2.2.2, .int v0.2.2.2.2.2.2.2.2.2.2.2.2.2]))], [(a0.2.1, .inl (cA, v0.1.1, .inl v0.1.2))], [(a0.2.2.1, .inl (cA, v0.2.1.1, .inl v0.2.1.2))], [(a0.2.2.2.1, .inl (cA, v0.2.2.2.2.1.1, .inl v0.2.2.2.2.1.2))], [(a0.2.2.2.2.1, .inl (cA, v0.2.2.2.2.2.2.2.1.1, .inl v0.2.2.2.2.2.2.2.1.2))], [(a0.2.2.2.2.2, .inl (cA, v0.2.2.2.2.2.2.2.2.2.2.2.2.1.1, .inl v0.2.2.2.2.2.2.2.2.2.2.2.2.1.2))]] H locs := hw
  refine lv_istore_n (lv' := [(2, .int o1), (0, .ref a0.1), (1, .int p1)]) hx hb dX11_lengthOf_5 rfl hl (by decide) rfl (fun ls hl => ?_)
  refine lv_iconst (v := 0) hx hb dX11_lengthOf_6 (by decide) ?_
  refine lv_istore_n (lv' := [(3, .int (0 : Int32)), (2, .int o1), (0, .ref a0.1), (1, .int p1)]) hx hb dX11_lengthOf_7 rfl hl (by decide) rfl (fun ls hl => ?_)
  refine lv_aload_n hx hb dX11_lengthOf_8 rfl (lv_at hl 2 rfl) ?_
  refine lv_iload_n hx hb dX11_lengthOf_9 rfl (lv_at hl 1 rfl) ?_
  refine k_put (ci := 11) (v := .int o1) (ty := .int) (C := RX11) (T := TX11) (N := 14) (bs1 := [[(a0.1, .inr (11, [.ref a0.2.1, .ref a0.2.2.1, .int v0.2.2.1, .int v0.2.2.2.1, .ref a0.2.2.2.1, .int v0.2.2.2.2.2.1, .int v0.2.2.2.2.2.2.1, .ref a0.2.2.2.2.1, .int v0.2.2.2.2.2.2.2.2.1, .int v0.2.2.2.2.2.2.2.2.2.1, .int v0.2.2.2.2.2.2.2.2.2.2.1, .int v0.2.2.2.2.2.2.2.2.2.2.2.1, .ref a0.2.2.2.2.2, .int o1]))], [(a0.2.1, .inl (cA, v0.1.1, .inl v0.1.2))], [(a0.2.2.1, .inl (cA, v0.2.1.1, .inl v0.2.1.2))], [(a0.2.2.2.1, .inl (cA, v0.2.2.2.2.1.1, .inl v0.2.2.2.2.1.2))], [(a0.2.2.2.2.1, .inl (cA, v0.2.2.2.2.2.2.2.1.1, .inl v0.2.2.2.2.2.2.2.1.2))], [(a0.2.2.2.2.2, .inl (cA, v0.2.2.2.2.2.2.2.2.2.2.2.2.1.1, .inl v0.2.2.2.2.2.2.2.2.2.2.2.2.1.2))]]) hx hb hts hown hz hw (by decide +kernel) tyX11 tyX11_ok nmX11 0 rfl rfl 13 (by decide) (hts (.fieldLink RX11 176 "OccupancyMonitorModel" "last" "I") (by decide +kernel)) (fun _ h9 => h9) rfl (by decide +kernel) rfl rfl (Nat.le_of_ble_eq_true rfl) dX11_lengthOf_10 rfl (fun H locs hw => ?_)
  refine lv_iconst (v := 0) hx hb dX11_lengthOf_13 (by decide) ?_
  refine lv_istore (lv' := [(4, .int (0 : Int32)), (3, .int (0 : Int32)), (2, .int o1), (0, .ref a0.1), (1, .int p1)]) hx hb dX11_lengthOf_14 hl (by decide) rfl (fun ls hl => ?_)
  have L16 : ∀ (n16 : Nat) (z16_0 : Int32) (z16_1 : Int32) (z16_2 : Int32) (o26 : Int32 × Int32 × Int32), qX11_lengthOf_16 N v0 o1 n16 z16_0 z16_1 z16_2 = some o26 → ∀ (H : Heap) (locs : List Loc) (ls : Array Slot), ww A s.heap D [[(a0.1, .inr (11, [.ref a0.2.1, .ref a0.2.2.1, .int v0.2.2.1, .int v0.2.2.2.1, .ref a0.2.2.2.1, .int v0.2.2.2.2.2.1, .int v0.2.2.2.2.2.2.1, .ref a0.2.2.2.2.1, .int v0.2.2.2.2.2.2.2.2.1, .int v0.2.2.2.2.2.2.2.2.2.1, .int v0.2.2.2.2.2.2.2.2.2.2.1, .int v0.2.2.2.2.2.2.2.2.2.2.2.1, .ref a0.2.2.2.2.2, .int z16_2]))], [(a0.2.1, .inl (cA, v0.1.1, .inl v0.1.2))], [(a0.2.2.1, .inl (cA, v0.2.1.1, .inl v0.2.1.2))], [(a0.2.2.2.1, .inl (cA, v0.2.2.2.2.1.1, .inl v0.2.2.2.2.1.2))], [(a0.2.2.2.2.1, .inl (cA, v0.2.2.2.2.2.2.2.1.1, .inl v0.2.2.2.2.2.2.2.1.2))], [(a0.2.2.2.2.2, .inl (cA, v0.2.2.2.2.2.2.2.2.2.2.2.2.1.1, .inl v0.2.2.2.2.2.2.2.2.2.2.2.2.1.2))]] H locs → lv_has ls 6 [(0, .ref a0.1), (1, .int p1), (2, .int o1), (3, .int z16_0), (4, .int z16_1)] → (∀ (y82 : Int32 × Int32 × Int32), o26 = y82 → ∀ (H : Heap) (locs : List Loc) (ls : Array Slot), ww A s.heap D [[(a0.1, .inr (11, [.ref a0.2.1, .ref a0.2.2.1, .int v0.2.2.1, .int v0.2.2.2.1, .ref a0.2.2.2.1, .int v0.2.2.2.2.2.1, .int v0.2.2.2.2.2.2.1, .ref a0.2.2.2.2.1, .int v0.2.2.2.2.2.2.2.2.1, .int v0.2.2.2.2.2.2.2.2.2.1, .int v0.2.2.2.2.2.2.2.2.2.2.1, .int v0.2.2.2.2.2.2.2.2.2.2.2.1, .ref a0.2.2.2.2.2, .int y82.2.2]))], [(a0.2.1, .inl (cA, v0.1.1, .inl v0.1.2))], [(a0.2.2.1, .inl (cA, v0.2.1.1, .inl v0.2.1.2))], [(a0.2.2.2.1, .inl (cA, v0.2.2.2.2.1.1, .inl v0.2.2.2.2.1.2))], [(a0.2.2.2.2.1, .inl (cA, v0.2.2.2.2.2.2.2.1.1, .inl v0.2.2.2.2.2.2.2.1.2))], [(a0.2.2.2.2.2, .inl (cA, v0.2.2.2.2.2.2.2.2.2.2.2.2.1.1, .inl v0.2.2.2.2.2.2.2.2.2.2.2.2.1.2))]] H locs → lv_has ls 6 [(0, .ref a0.1), (1, .int p1), (2, .int o1), (3, .int y82.1), (4, .int y82.2.1)] → W p l e rX11_lengthOf s m args below meth c H locs 0 0 Q (F0 m 82 ls [])) → W p l e rX11_lengthOf s m args below meth c H locs 0 0 Q (F0 m 16 ls []) := by
    intro n16
    induction n16 with
    | zero => intro z16_0 z16_1 z16_2 o26 hsp; cases hsp
    | succ n16 ih16 =>
      intro z16_0 z16_1 z16_2 o26 hsp H locs ls hw hl kx16_82
      have hsp : (grd (vp_in (9 : Int32) v0.1.1) (if (v0.1.2 (9 : Int32).toNatClampNeg) ≤ z16_1 then (some (z16_0, z16_1, z16_2)) else ((sX11_firstOf N (v0.1, v0.2.1, v0.2.2.1, v0.2.2.2.1, v0.2.2.2.2.1, v0.2.2.2.2.2.1, v0.2.2.2.2.2.2.1, v0.2.2.2.2.2.2.2.1, v0.2.2.2.2.2.2.2.2.1, v0.2.2.2.2.2.2.2.2.2.1, v0.2.2.2.2.2.2.2.2.2.2.1, v0.2.2.2.2.2.2.2.2.2.2.2.1, v0.2.2.2.2.2.2.2.2.2.2.2.2.1, z16_2) z16_1).bind (fun o29 => (((if o29 = o1 then (some (1 : Int32)) else (some (0 : Int32))) : Option (Int32)).bind (fun j31 => (((if j31 = 0 then (some (0 : Int32)) else (some (1 : Int32))) : Option (Int32)).bind (fun j33 => (((if j31 = 0 then (some z16_2) else (some z16_1)) : Option (Int32)).bind (fun j35 => (qX11_lengthOf_16 N v0 o1 n16 (z16_0 + j33) (z16_1 + 1) j35))))))))))) = some o26 := hsp
      refine lv_iload hx hb dX11_lengthOf_16 (lv_at hl 4 rfl) ?_
      refine lv_aload_n hx hb dX11_lengthOf_18 rfl (lv_at hl 0 rfl) ?_
      refine k_get (ci := 11) (v := .ref a0.2.1) (C := RX11) (T := TX11) (N := 14) hx hb hts hown hz hw (by decide +kernel) 0 rfl rfl 0 (by decide) (hts (.fieldLink RX11 7 "OccupancyMonitorModel" "all" "[I") (by decide +kernel)) (fun _ h9 => h9) rfl dX11_lengthOf_19 ?_
      refine lv_bipush (v := 9) hx hb dX11_lengthOf_22 (by decide) ?_
      obtain ⟨g27, hsp⟩ := grd_of hsp
      refine k_iald hx hb hz hw 1 rfl g27 dX11_lengthOf_24 ?_
      refine lv_icmp_ge (tgt := 82) hx hb dX11_lengthOf_25 (by decide) (fun c28 => ?_) (fun c28 => ?_)
      · have hsp := ift c28 hsp
        have hsp := Option.some.inj hsp
        subst hsp
        exact kx16_82 _ rfl _ _ _ hw (lv_sub hl [0, 1, 2, 3, 4] rfl)
      · have hsp := iff_ c28 hsp
        refine lv_aload_n hx hb dX11_lengthOf_28 rfl (lv_at hl 0 rfl) ?_
        refine lv_iload hx hb dX11_lengthOf_29 (lv_at hl 4 rfl) ?_
        have hw : ww A s.heap D [w11 cA a0 (v0.1, v0.2.1, v0.2.2.1, v0.2.2.2.1, v0.2.2.2.2.1, v0.2.2.2.2.2.1, v0.2.2.2.2.2.2.1, v0.2.2.2.2.2.2.2.1, v0.2.2.2.2.2.2.2.2.1, v0.2.2.2.2.2.2.2.2.2.1, v0.2.2.2.2.2.2.2.2.2.2.1, v0.2.2.2.2.2.2.2.2.2.2.2.1, v0.2.2.2.2.2.2.2.2.2.2.2.2.1, z16_2)] H locs := hw
        obtain ⟨o29, hso29, hsp⟩ := bnd_of hsp
        refine k_callV (ci := 11) (C := RX11) (T := TX11) (N := 14) (nA := 1) (As := [.int z16_1]) (cs := [w11 cA a0 (v0.1, v0.2.1, v0.2.2.1, v0.2.2.2.1, v0.2.2.2.2.1, v0.2.2.2.2.2.1, v0.2.2.2.2.2.2.1, v0.2.2.2.2.2.2.2.1, v0.2.2.2.2.2.2.2.2.1, v0.2.2.2.2.2.2.2.2.2.1, v0.2.2.2.2.2.2.2.2.2.2.1, v0.2.2.2.2.2.2.2.2.2.2.2.1, v0.2.2.2.2.2.2.2.2.2.2.2.2.1, z16_2)]) (rs := []) (cs1 := [w11 cA a0 (v0.1, v0.2.1, v0.2.2.1, v0.2.2.2.1, v0.2.2.2.2.1, v0.2.2.2.2.2.1, v0.2.2.2.2.2.2.1, v0.2.2.2.2.2.2.2.1, v0.2.2.2.2.2.2.2.2.1, v0.2.2.2.2.2.2.2.2.2.1, v0.2.2.2.2.2.2.2.2.2.2.1, v0.2.2.2.2.2.2.2.2.2.2.2.1, v0.2.2.2.2.2.2.2.2.2.2.2.2.1, z16_2)]) (bs1 := [w11 cA a0 (v0.1, v0.2.1, v0.2.2.1, v0.2.2.2.1, v0.2.2.2.2.1, v0.2.2.2.2.2.1, v0.2.2.2.2.2.2.1, v0.2.2.2.2.2.2.2.1, v0.2.2.2.2.2.2.2.2.1, v0.2.2.2.2.2.2.2.2.2.1, v0.2.2.2.2.2.2.2.2.2.2.1, v0.2.2.2.2.2.2.2.2.2.2.2.1, v0.2.2.2.2.2.2.2.2.2.2.2.2.1, z16_2)]) (rest := []) (st1 := [.int o29]) ⟨hx, hb, hml, hown, hts⟩ hz hw hA (mX11_firstOf l D cA cR N a0 (v0.1, v0.2.1, v0.2.2.1, v0.2.2.2.1, v0.2.2.2.2.1, v0.2.2.2.2.2.1, v0.2.2.2.2.2.2.1, v0.2.2.2.2.2.2.2.1, v0.2.2.2.2.2.2.2.2.1, v0.2.2.2.2.2.2.2.2.2.1, v0.2.2.2.2.2.2.2.2.2.2.1, v0.2.2.2.2.2.2.2.2.2.2.2.1, v0.2.2.2.2.2.2.2.2.2.2.2.2.1, z16_2) z16_1 o29 hso29) gX11_lengthOf_X11_firstOf rfl rfl rfl (by decide +kernel) rfl ⟨Nat.le_of_ble_eq_true rfl, Nat.le_of_ble_eq_true rfl⟩ rfl rfl hl.1 rfl (Nat.le_of_ble_eq_true rfl) dX11_lengthOf_31 ⟨Nat.le_of_ble_eq_true rfl, Nat.le_of_ble_eq_true rfl⟩ [0] [] [0] rfl rfl rfl rfl rfl rfl (fun H locs hw => ?_)
        have hw : ww A s.heap D [[(a0.1, .inr (11, [.ref a0.2.1, .ref a0.2.2.1, .int v0.2.2.1, .int v0.2.2.2.1, .ref a0.2.2.2.1, .int v0.2.2.2.2.2.1, .int v0.2.2.2.2.2.2.1, .ref a0.2.2.2.2.1, .int v0.2.2.2.2.2.2.2.2.1, .int v0.2.2.2.2.2.2.2.2.2.1, .int v0.2.2.2.2.2.2.2.2.2.2.1, .int v0.2.2.2.2.2.2.2.2.2.2.2.1, .ref a0.2.2.2.2.2, .int z16_2]))], [(a0.2.1, .inl (cA, v0.1.1, .inl v0.1.2))], [(a0.2.2.1, .inl (cA, v0.2.1.1, .inl v0.2.1.2))], [(a0.2.2.2.1, .inl (cA, v0.2.2.2.2.1.1, .inl v0.2.2.2.2.1.2))], [(a0.2.2.2.2.1, .inl (cA, v0.2.2.2.2.2.2.2.1.1, .inl v0.2.2.2.2.2.2.2.1.2))], [(a0.2.2.2.2.2, .inl (cA, v0.2.2.2.2.2.2.2.2.2.2.2.2.1.1, .inl v0.2.2.2.2.2.2.2.2.2.2.2.2.1.2))]] H locs := hw
        refine lv_iload_n hx hb dX11_lengthOf_34 rfl (lv_at hl 2 rfl) ?_
        obtain ⟨j31, hsj31, hkj31⟩ := bnd_of hsp
        have Jj31 : ∀ (H : Heap) (locs : List Loc) (ls : Array Slot), ww A s.heap D [[(a0.1, .inr (11, [.ref a0.2.1, .ref a0.2.2.1, .int v0.2.2.1, .int v0.2.2.2.1, .ref a0.2.2.2.1, .int v0.2.2.2.2.2.1, .int v0.2.2.2.2.2.2.1, .ref a0.2.2.2.2.1, .int v0.2.2.2.2.2.2.2.2.1, .int v0.2.2.2.2.2.2.2.2.2.1, .int v0.2.2.2.2.2.2.2.2.2.2.1, .int v0.2.2.2.2.2.2.2.2.2.2.2.1, .ref a0.2.2.2.2.2, .int z16_2]))], [(a0.2.1, .inl (cA, v0.1.1, .inl v0.1.2))], [(a0.2.2.1, .inl (cA, v0.2.1.1, .inl v0.2.1.2))], [(a0.2.2.2.1, .inl (cA, v0.2.2.2.2.1.1, .inl v0.2.2.2.2.1.2))], [(a0.2.2.2.2.1, .inl (cA, v0.2.2.2.2.2.2.2.1.1, .inl v0.2.2.2.2.2.2.2.1.2))], [(a0.2.2.2.2.2, .inl (cA, v0.2.2.2.2.2.2.2.2.2.2.2.2.1.1, .inl v0.2.2.2.2.2.2.2.2.2.2.2.2.1.2))]] H locs → lv_has ls 6 [(0, .ref a0.1), (1, .int p1), (2, .int o1), (3, .int z16_0), (4, .int z16_1)] → W p l e rX11_lengthOf s m args below meth c H locs 0 0 Q (F0 m 43 ls [.int j31]) := by
          intro H locs ls hw hl
          have hsp := hkj31
          refine lv_istore (lv' := [(5, .int j31), (0, .ref a0.1), (1, .int p1), (2, .int o1), (3, .int z16_0), (4, .int z16_1)]) hx hb dX11_lengthOf_43 hl (by decide) rfl (fun ls hl => ?_)
          refine lv_iload_n hx hb dX11_lengthOf_45 rfl (lv_at hl 4 rfl) ?_
          refine lv_iload hx hb dX11_lengthOf_46 (lv_at hl 0 rfl) ?_
          obtain ⟨j33, hsj33, hkj33⟩ := bnd_of hsp
          have Jj33 : ∀ (H : Heap) (locs : List Loc) (ls : Array Slot), ww A s.heap D [[(a0.1, .inr (11, [.ref a0.2.1, .ref a0.2.2.1, .int v0.2.2.1, .int v0.2.2.2.1, .ref a0.2.2.2.1, .int v0.2.2.2.2.2.1, .int v0.2.2.2.2.2.2.1, .ref a0.2.2.2.2.1, .int v0.2.2.2.2.2.2.2.2.1, .int v0.2.2.2.2.2.2.2.2.2.1, .int v0.2.2.2.2.2.2.2.2.2.2.1, .int v0.2.2.2.2.2.2.2.2.2.2.2.1, .ref a0.2.2.2.2.2, .int z16_2]))], [(a0.2.1, .inl (cA, v0.1.1, .inl v0.1.2))], [(a0.2.2.1, .inl (cA, v0.2.1.1, .inl v0.2.1.2))], [(a0.2.2.2.1, .inl (cA, v0.2.2.2.2.1.1, .inl v0.2.2.2.2.1.2))], [(a0.2.2.2.2.1, .inl (cA, v0.2.2.2.2.2.2.2.1.1, .inl v0.2.2.2.2.2.2.2.1.2))], [(a0.2.2.2.2.2, .inl (cA, v0.2.2.2.2.2.2.2.2.2.2.2.2.1.1, .inl v0.2.2.2.2.2.2.2.2.2.2.2.2.1.2))]] H locs → lv_has ls 6 [(0, .ref a0.1), (1, .int p1), (2, .int o1), (3, .int z16_0), (4, .int z16_1), (5, .int j31)] → W p l e rX11_lengthOf s m args below meth c H locs 0 0 Q (F0 m 56 ls [.int j33, .int z16_0]) := by
            intro H locs ls hw hl
            have hsp := hkj33
            refine lv_iadd hx hb dX11_lengthOf_56 ?_
            refine lv_istore_n (lv' := [(3, .int (z16_0 + j33)), (0, .ref a0.1), (1, .int p1), (2, .int o1), (4, .int z16_1), (5, .int j31)]) hx hb dX11_lengthOf_57 rfl hl (by decide) rfl (fun ls hl => ?_)
            refine lv_aload_n hx hb dX11_lengthOf_58 rfl (lv_at hl 1 rfl) ?_
            refine lv_iload hx hb dX11_lengthOf_59 (lv_at hl 5 rfl) ?_
            obtain ⟨j35, hsj35, hkj35⟩ := bnd_of hsp
            have Jj35 : ∀ (H : Heap) (locs : List Loc) (ls : Array Slot), ww A s.heap D [[(a0.1, .inr (11, [.ref a0.2.1, .ref a0.2.2.1, .int v0.2.2.1, .int v0.2.2.2.1, .ref a0.2.2.2.1, .int v0.2.2.2.2.2.1, .int v0.2.2.2.2.2.2.1, .ref a0.2.2.2.2.1, .int v0.2.2.2.2.2.2.2.2.1, .int v0.2.2.2.2.2.2.2.2.2.1, .int v0.2.2.2.2.2.2.2.2.2.2.1, .int v0.2.2.2.2.2.2.2.2.2.2.2.1, .ref a0.2.2.2.2.2, .int z16_2]))], [(a0.2.1, .inl (cA, v0.1.1, .inl v0.1.2))], [(a0.2.2.1, .inl (cA, v0.2.1.1, .inl v0.2.1.2))], [(a0.2.2.2.1, .inl (cA, v0.2.2.2.2.1.1, .inl v0.2.2.2.2.1.2))], [(a0.2.2.2.2.1, .inl (cA, v0.2.2.2.2.2.2.2.1.1, .inl v0.2.2.2.2.2.2.2.1.2))], [(a0.2.2.2.2.2, .inl (cA, v0.2.2.2.2.2.2.2.2.2.2.2.2.1.1, .inl v0.2.2.2.2.2.2.2.2.2.2.2.2.1.2))]] H locs → lv_has ls 6 [(0, .ref a0.1), (1, .int p1), (2, .int o1), (3, .int (z16_0 + j33)), (4, .int z16_1), (5, .int j31)] → W p l e rX11_lengthOf s m args below meth c H locs 0 0 Q (F0 m 73 ls [.int j35, .ref a0.1]) := by
              intro H locs ls hw hl
              have hsp := hkj35
              refine k_put (ci := 11) (v := .int j35) (ty := .int) (C := RX11) (T := TX11) (N := 14) (bs1 := [[(a0.1, .inr (11, [.ref a0.2.1, .ref a0.2.2.1, .int v0.2.2.1, .int v0.2.2.2.1, .ref a0.2.2.2.1, .int v0.2.2.2.2.2.1, .int v0.2.2.2.2.2.2.1, .ref a0.2.2.2.2.1, .int v0.2.2.2.2.2.2.2.2.1, .int v0.2.2.2.2.2.2.2.2.2.1, .int v0.2.2.2.2.2.2.2.2.2.2.1, .int v0.2.2.2.2.2.2.2.2.2.2.2.1, .ref a0.2.2.2.2.2, .int j35]))], [(a0.2.1, .inl (cA, v0.1.1, .inl v0.1.2))], [(a0.2.2.1, .inl (cA, v0.2.1.1, .inl v0.2.1.2))], [(a0.2.2.2.1, .inl (cA, v0.2.2.2.2.1.1, .inl v0.2.2.2.2.1.2))], [(a0.2.2.2.2.1, .inl (cA, v0.2.2.2.2.2.2.2.1.1, .inl v0.2.2.2.2.2.2.2.1.2))], [(a0.2.2.2.2.2, .inl (cA, v0.2.2.2.2.2.2.2.2.2.2.2.2.1.1, .inl v0.2.2.2.2.2.2.2.2.2.2.2.2.1.2))]]) hx hb hts hown hz hw (by decide +kernel) tyX11 tyX11_ok nmX11 0 rfl rfl 13 (by decide) (hts (.fieldLink RX11 176 "OccupancyMonitorModel" "last" "I") (by decide +kernel)) (fun _ h9 => h9) rfl (by decide +kernel) rfl rfl (Nat.le_of_ble_eq_true rfl) dX11_lengthOf_73 rfl (fun H locs hw => ?_)
              refine lv_iinc (v := (z16_1 + 1)) (lv' := [(4, .int (z16_1 + 1)), (0, .ref a0.1), (1, .int p1), (2, .int o1), (3, .int (z16_0 + j33)), (5, .int j31)]) hx hb dX11_lengthOf_76 hl (k := 4) rfl rfl (by decide) rfl (fun ls hl => ?_)
              refine lv_goto (tgt := 16) hx hb dX11_lengthOf_79 (by decide) ?_
              exact ih16 (z16_0 + j33) (z16_1 + 1) j35 _ hsp _ _ _ hw (lv_sub hl [1, 2, 3, 4, 0] rfl) kx16_82
            have hsp := hsj35
            refine lv_if_eq (tgt := 69) hx hb dX11_lengthOf_61 (by decide) (fun c36 => ?_) (fun c36 => ?_)
            · have hsp := ift c36 hsp
              refine lv_aload_n hx hb dX11_lengthOf_69 rfl (lv_at hl 1 rfl) ?_
              refine k_get (ci := 11) (v := .int z16_2) (C := RX11) (T := TX11) (N := 14) hx hb hts hown hz hw (by decide +kernel) 0 rfl rfl 13 (by decide) (hts (.fieldLink RX11 176 "OccupancyMonitorModel" "last" "I") (by decide +kernel)) (fun _ h9 => h9) rfl dX11_lengthOf_70 ?_
              have hsp := Option.some.inj hsp
              subst hsp
              exact Jj35 _ _ _ hw (lv_sub hl [1, 2, 3, 0, 4, 5] rfl)
            · have hsp := iff_ c36 hsp
              refine lv_iload hx hb dX11_lengthOf_64 (lv_at hl 4 rfl) ?_
              refine lv_goto (tgt := 73) hx hb dX11_lengthOf_66 (by decide) ?_
              have hsp := Option.some.inj hsp
              subst hsp
              exact Jj35 _ _ _ hw (lv_sub hl [1, 2, 3, 0, 4, 5] rfl)
          have hsp := hsj33
          refine lv_if_eq (tgt := 55) hx hb dX11_lengthOf_48 (by decide) (fun c37 => ?_) (fun c37 => ?_)
          · have hsp := ift c37 hsp
            refine lv_iconst (v := 0) hx hb dX11_lengthOf_55 (by decide) ?_
            have hsp := Option.some.inj hsp
            subst hsp
            exact Jj33 _ _ _ hw (lv_sub hl [1, 2, 3, 4, 5, 0] rfl)
          · have hsp := iff_ c37 hsp
            refine lv_iconst (v := 1) hx hb dX11_lengthOf_51 (by decide) ?_
            refine lv_goto (tgt := 56) hx hb dX11_lengthOf_52 (by decide) ?_
            have hsp := Option.some.inj hsp
            subst hsp
            exact Jj33 _ _ _ hw (lv_sub hl [1, 2, 3, 4, 5, 0] rfl)
        have hsp := hsj31
        refine lv_icmp_ne (tgt := 42) hx hb dX11_lengthOf_35 (by decide) (fun c38 => ?_) (fun c38 => ?_)
        · have hsp := iff_ c38 hsp
          refine lv_iconst (v := 0) hx hb dX11_lengthOf_42 (by decide) ?_
          have hsp := Option.some.inj hsp
          subst hsp
          exact Jj31 _ _ _ hw (lv_sub hl [0, 1, 2, 3, 4] rfl)
        · have hsp := ift c38 hsp
          refine lv_iconst (v := 1) hx hb dX11_lengthOf_38 (by decide) ?_
          refine lv_goto (tgt := 43) hx hb dX11_lengthOf_39 (by decide) ?_
          have hsp := Option.some.inj hsp
          subst hsp
          exact Jj31 _ _ _ hw (lv_sub hl [0, 1, 2, 3, 4] rfl)
  obtain ⟨o26, hso26, hsp⟩ := bnd_of hsp
  refine L16 N (0 : Int32) (0 : Int32) o1 _ hso26 _ _ _ hw (lv_sub hl [3, 4, 2, 1, 0] rfl) (fun y82 hy82 H locs ls hw hl => ?_)
  cases hy82
  refine lv_iload_n hx hb dX11_lengthOf_82 rfl (lv_at hl 3 rfl) ?_
  have hsp := Option.some.inj hsp
  subst hsp
  have hw : ww A s.heap D [w11 cA a0 (v0.1, v0.2.1, v0.2.2.1, v0.2.2.2.1, v0.2.2.2.2.1, v0.2.2.2.2.2.1, v0.2.2.2.2.2.2.1, v0.2.2.2.2.2.2.2.1, v0.2.2.2.2.2.2.2.2.1, v0.2.2.2.2.2.2.2.2.2.1, v0.2.2.2.2.2.2.2.2.2.2.1, v0.2.2.2.2.2.2.2.2.2.2.2.1, v0.2.2.2.2.2.2.2.2.2.2.2.2.1, o26.2.2)] H locs := hw
  subst hQ
  exact k_iret hx hb hr hlk hw dX11_lengthOf_83
noncomputable def sX11_chainLength (N : Nat) (v0 : V11) (p1 : Int32) : Option (Int32 × V11) := ((sX11_isEvent v0 p1).bind (fun o1 => ((sX11_goes v0 o1 (1 : Int32)).bind (fun o2 => (if o2.1 = 0 then (some ((0 : Int32), o2.2)) else ((sX11_laysChains N o2.2).bind (fun o4 => ((sX11_lengthOf N o4 p1).bind (fun o5 => (some (o5.1, o5.2)))))))))))
abbrev rX11_chainLength : Room := { frames := 2, cells := 0, slots := 0, locals := 50 }
set_option maxHeartbeats 4000000 in
set_option maxRecDepth 100000 in
theorem mX11_chainLength (l : Launch) (D : va_G) (cA cR : ClassId) (N : Nat) (a0 : A11) (v0 : V11) (p1 : Int32) (o : Int32 × V11) (hsp : sX11_chainLength N v0 p1 = some o) : MI l yX11_chainLength wsX11_chainLength rX11_chainLength D cA cR [.ref a0.1, .int p1] [w11 cA a0 v0] (some (.int o.1)) [w11 cA a0 o.2] 0 0 := by
  have hsp : ((sX11_isEvent v0 p1).bind (fun o1 => ((sX11_goes v0 o1 (1 : Int32)).bind (fun o2 => (if o2.1 = 0 then (some ((0 : Int32), o2.2)) else ((sX11_laysChains N o2.2).bind (fun o4 => ((sX11_lengthOf N o4 p1).bind (fun o5 => (some (o5.1, o5.2))))))))))) = some o := hsp
  refine MI.ofW (cc := cX11_chainLength) (maxL := 2) (ret := (some .int)) (by decide) rfl (Nat.le_of_ble_eq_true rfl) ?_
  intro p e s m args below meth c A ls Q H locs hx hb hr hlk hml hown hnm hts hz hA hQ hw hl
  have hl : lv_has ls 2 [(0, .ref a0.1), (1, .int p1)] := hl
  have hw : ww A s.heap D [w11 cA a0 v0] H locs := hw
  refine lv_aload_n hx hb dX11_chainLength_0 rfl (lv_at hl 0 rfl) ?_
  refine lv_aload_n hx hb dX11_chainLength_1 rfl (lv_at hl 0 rfl) ?_
  refine lv_iload_n hx hb dX11_chainLength_2 rfl (lv_at hl 1 rfl) ?_
  obtain ⟨o1, hso1, hsp⟩ := bnd_of hsp
  refine k_callV (ci := 11) (C := RX11) (T := TX11) (N := 14) (nA := 1) (As := [.int p1]) (cs := [w11 cA a0 v0]) (rs := []) (cs1 := [w11 cA a0 v0]) (bs1 := [w11 cA a0 v0]) (rest := [.ref a0.1]) (st1 := [.int o1, .ref a0.1]) ⟨hx, hb, hml, hown, hts⟩ hz hw hA (mX11_isEvent l D cA cR a0 v0 p1 o1 hso1) gX11_chainLength_X11_isEvent rfl rfl rfl (by decide +kernel) rfl ⟨Nat.le_of_ble_eq_true rfl, Nat.le_of_ble_eq_true rfl⟩ rfl rfl hl.1 rfl (Nat.le_of_ble_eq_true rfl) dX11_chainLength_3 ⟨Nat.le_of_ble_eq_true rfl, Nat.le_of_ble_eq_true rfl⟩ [0] [] [0] rfl rfl rfl rfl rfl rfl (fun H locs hw => ?_)
  refine lv_iconst (v := 1) hx hb dX11_chainLength_6 (by decide) ?_
  obtain ⟨o2, hso2, hsp⟩ := bnd_of hsp
  refine k_callV (ci := 11) (C := RX11) (T := TX11) (N := 14) (nA := 2) (As := [.int o1, .int (1 : Int32)]) (cs := [w11 cA a0 v0]) (rs := []) (cs1 := [w11 cA a0 o2.2]) (bs1 := [w11 cA a0 o2.2]) (rest := []) (st1 := [.int o2.1]) ⟨hx, hb, hml, hown, hts⟩ hz hw hA (mX11_goes l D cA cR a0 v0 o1 (1 : Int32) o2 hso2) gX11_chainLength_X11_goes rfl rfl rfl (by decide +kernel) rfl ⟨Nat.le_of_ble_eq_true rfl, Nat.le_of_ble_eq_true rfl⟩ rfl rfl hl.1 rfl (Nat.le_of_ble_eq_true rfl) dX11_chainLength_7 ⟨Nat.le_of_ble_eq_true rfl, Nat.le_of_ble_eq_true rfl⟩ [0] [] [0] rfl rfl rfl rfl rfl rfl (fun H locs hw => ?_)
  refine lv_if_ne (tgt := 15) hx hb dX11_chainLength_10 (by decide) (fun c3 => ?_) (fun c3 => ?_)
  · have hsp := iff_ c3 hsp
    refine lv_aload_n hx hb dX11_chainLength_15 rfl (lv_at hl 0 rfl) ?_
    obtain ⟨o4, hso4, hsp⟩ := bnd_of hsp
    refine k_callV (ci := 11) (C := RX11) (T := TX11) (N := 14) (nA := 0) (As := []) (cs := [w11 cA a0 o2.2]) (rs := []) (cs1 := [w11 cA a0 o4]) (bs1 := [w11 cA a0 o4]) (rest := []) (st1 := []) ⟨hx, hb, hml, hown, hts⟩ hz hw hA (mX11_laysChains l D cA cR N a0 o2.2 o4 hso4) gX11_chainLength_X11_laysChains rfl rfl rfl (by decide +kernel) rfl ⟨Nat.le_of_ble_eq_true rfl, Nat.le_of_ble_eq_true rfl⟩ rfl rfl hl.1 rfl (Nat.le_of_ble_eq_true rfl) dX11_chainLength_16 ⟨Nat.le_of_ble_eq_true rfl, Nat.le_of_ble_eq_true rfl⟩ [0] [] [0] rfl rfl rfl rfl rfl rfl (fun H locs hw => ?_)
    refine lv_aload_n hx hb dX11_chainLength_19 rfl (lv_at hl 0 rfl) ?_
    refine lv_iload_n hx hb dX11_chainLength_20 rfl (lv_at hl 1 rfl) ?_
    obtain ⟨o5, hso5, hsp⟩ := bnd_of hsp
    refine k_callV (ci := 11) (C := RX11) (T := TX11) (N := 14) (nA := 1) (As := [.int p1]) (cs := [w11 cA a0 o4]) (rs := []) (cs1 := [w11 cA a0 o5.2]) (bs1 := [w11 cA a0 o5.2]) (rest := []) (st1 := [.int o5.1]) ⟨hx, hb, hml, hown, hts⟩ hz hw hA (mX11_lengthOf l D cA cR N a0 o4 p1 o5 hso5) gX11_chainLength_X11_lengthOf rfl rfl rfl (by decide +kernel) rfl ⟨Nat.le_of_ble_eq_true rfl, Nat.le_of_ble_eq_true rfl⟩ rfl rfl hl.1 rfl (Nat.le_of_ble_eq_true rfl) dX11_chainLength_21 ⟨Nat.le_of_ble_eq_true rfl, Nat.le_of_ble_eq_true rfl⟩ [0] [] [0] rfl rfl rfl rfl rfl rfl (fun H locs hw => ?_)
    have hsp := Option.some.inj hsp
    subst hsp
    have hw : ww A s.heap D [w11 cA a0 o5.2] H locs := hw
    subst hQ
    exact k_iret hx hb hr hlk hw dX11_chainLength_24
  · have hsp := ift c3 hsp
    refine lv_iconst (v := 0) hx hb dX11_chainLength_13 (by decide) ?_
    have hsp := Option.some.inj hsp
    subst hsp
    have hw : ww A s.heap D [w11 cA a0 o2.2] H locs := hw
    subst hQ
    exact k_iret hx hb hr hlk hw dX11_chainLength_14
noncomputable def qX11_chains_13 (o1 : V11) : Nat → Int32 → Int32 → Option (Int32 × Int32)
  | 0, _, _ => none
  | n13 + 1, z13_0, z13_1 => (grd (vp_in (9 : Int32) o1.1.1) (if (o1.1.2 (9 : Int32).toNatClampNeg) ≤ z13_1 then (some (z13_0, z13_1)) else (grd (vp_in z13_1 o1.2.2.2.2.2.2.2.2.2.2.2.2.1.1) (((if (o1.2.2.2.2.2.2.2.2.2.2.2.2.1.2 z13_1.toNatClampNeg) = (-1 : Int32) then (some (1 : Int32)) else (some (0 : Int32))) : Option (Int32)).bind (fun j19 => (qX11_chains_13 o1 n13 (z13_0 + j19) (z13_1 + 1)))))))
noncomputable def sX11_chains (N : Nat) (v0 : V11) : Option (Int32 × V11) := ((sX11_laysChains N (v0.1, v0.2.1, v0.2.2.1, (0 : Int32), v0.2.2.2.2.1, v0.2.2.2.2.2.1, v0.2.2.2.2.2.2.1, v0.2.2.2.2.2.2.2.1, v0.2.2.2.2.2.2.2.2.1, v0.2.2.2.2.2.2.2.2.2.1, v0.2.2.2.2.2.2.2.2.2.2.1, v0.2.2.2.2.2.2.2.2.2.2.2.1, v0.2.2.2.2.2.2.2.2.2.2.2.2.1, v0.2.2.2.2.2.2.2.2.2.2.2.2.2)).bind (fun o1 => ((qX11_chains_13 o1 N (0 : Int32) (0 : Int32)).bind (fun o14 => (some (o14.1, o1))))))
abbrev rX11_chains : Room := { frames := 2, cells := 0, slots := 0, locals := 50 }
set_option maxHeartbeats 4000000 in
set_option maxRecDepth 100000 in
theorem mX11_chains (l : Launch) (D : va_G) (cA cR : ClassId) (N : Nat) (a0 : A11) (v0 : V11) (o : Int32 × V11) (hsp : sX11_chains N v0 = some o) : MI l yX11_chains wsX11_chains rX11_chains D cA cR [.ref a0.1] [w11 cA a0 v0] (some (.int o.1)) [w11 cA a0 o.2] 0 0 := by
  have hsp : ((sX11_laysChains N (v0.1, v0.2.1, v0.2.2.1, (0 : Int32), v0.2.2.2.2.1, v0.2.2.2.2.2.1, v0.2.2.2.2.2.2.1, v0.2.2.2.2.2.2.2.1, v0.2.2.2.2.2.2.2.2.1, v0.2.2.2.2.2.2.2.2.2.1, v0.2.2.2.2.2.2.2.2.2.2.1, v0.2.2.2.2.2.2.2.2.2.2.2.1, v0.2.2.2.2.2.2.2.2.2.2.2.2.1, v0.2.2.2.2.2.2.2.2.2.2.2.2.2)).bind (fun o1 => ((qX11_chains_13 o1 N (0 : Int32) (0 : Int32)).bind (fun o14 => (some (o14.1, o1)))))) = some o := hsp
  refine MI.ofW (cc := cX11_chains) (maxL := 3) (ret := (some .int)) (by decide) rfl (Nat.le_of_ble_eq_true rfl) ?_
  intro p e s m args below meth c A ls Q H locs hx hb hr hlk hml hown hnm hts hz hA hQ hw hl
  have hl : lv_has ls 3 [(0, .ref a0.1)] := hl
  have hw : ww A s.heap D [[(a0.1, .inr (11, [.ref a0.2.1, .ref a0.2.2.1, .int v0.2.2.1, .int v0.2.2.2.1, .ref a0.2.2.2.1, .int v0.2.2.2.2.2.1, .int v0.2.2.2.2.2.2.1, .ref a0.2.2.2.2.1, .int v0.2.2.2.2.2.2.2.2.1, .int v0.2.2.2.2.2.2.2.2.2.1, .int v0.2.2.2.2.2.2.2.2.2.2.1, .int v0.2.2.2.2.2.2.2.2.2.2.2.1, .ref a0.2.2.2.2.2, .int v0.2.2.2.2.2.2.2.2.2.2.2.2.2]))], [(a0.2.1, .inl (cA, v0.1.1, .inl v0.1.2))], [(a0.2.2.1, .inl (cA, v0.2.1.1, .inl v0.2.1.2))], [(a0.2.2.2.1, .inl (cA, v0.2.2.2.2.1.1, .inl v0.2.2.2.2.1.2))], [(a0.2.2.2.2.1, .inl (cA, v0.2.2.2.2.2.2.2.1.1, .inl v0.2.2.2.2.2.2.2.1.2))], [(a0.2.2.2.2.2, .inl (cA, v0.2.2.2.2.2.2.2.2.2.2.2.2.1.1, .inl v0.2.2.2.2.2.2.2.2.2.2.2.2.1.2))]] H locs := hw
  refine lv_aload_n hx hb dX11_chains_0 rfl (lv_at hl 0 rfl) ?_
  refine lv_iconst (v := 0) hx hb dX11_chains_1 (by decide) ?_
  refine k_put (ci := 11) (v := .int (0 : Int32)) (ty := .int) (C := RX11) (T := TX11) (N := 14) (bs1 := [[(a0.1, .inr (11, [.ref a0.2.1, .ref a0.2.2.1, .int v0.2.2.1, .int (0 : Int32), .ref a0.2.2.2.1, .int v0.2.2.2.2.2.1, .int v0.2.2.2.2.2.2.1, .ref a0.2.2.2.2.1, .int v0.2.2.2.2.2.2.2.2.1, .int v0.2.2.2.2.2.2.2.2.2.1, .int v0.2.2.2.2.2.2.2.2.2.2.1, .int v0.2.2.2.2.2.2.2.2.2.2.2.1, .ref a0.2.2.2.2.2, .int v0.2.2.2.2.2.2.2.2.2.2.2.2.2]))], [(a0.2.1, .inl (cA, v0.1.1, .inl v0.1.2))], [(a0.2.2.1, .inl (cA, v0.2.1.1, .inl v0.2.1.2))], [(a0.2.2.2.1, .inl (cA, v0.2.2.2.2.1.1, .inl v0.2.2.2.2.1.2))], [(a0.2.2.2.2.1, .inl (cA, v0.2.2.2.2.2.2.2.1.1, .inl v0.2.2.2.2.2.2.2.1.2))], [(a0.2.2.2.2.2, .inl (cA, v0.2.2.2.2.2.2.2.2.2.2.2.2.1.1, .inl v0.2.2.2.2.2.2.2.2.2.2.2.2.1.2))]]) hx hb hts hown hz hw (by decide +kernel) tyX11 tyX11_ok nmX11 0 rfl rfl 3 (by decide) (hts (.fieldLink RX11 28 "OccupancyMonitorModel" "thrown" "I") (by decide +kernel)) (fun _ h9 => h9) rfl (by decide +kernel) rfl rfl (Nat.le_of_ble_eq_true rfl) dX11_chains_2 rfl (fun H locs hw => ?_)
  refine lv_aload_n hx hb dX11_chains_5 rfl (lv_at hl 0 rfl) ?_
  have hw : ww A s.heap D [w11 cA a0 (v0.1, v0.2.1, v0.2.2.1, (0 : Int32), v0.2.2.2.2.1, v0.2.2.2.2.2.1, v0.2.2.2.2.2.2.1, v0.2.2.2.2.2.2.2.1, v0.2.2.2.2.2.2.2.2.1, v0.2.2.2.2.2.2.2.2.2.1, v0.2.2.2.2.2.2.2.2.2.2.1, v0.2.2.2.2.2.2.2.2.2.2.2.1, v0.2.2.2.2.2.2.2.2.2.2.2.2.1, v0.2.2.2.2.2.2.2.2.2.2.2.2.2)] H locs := hw
  obtain ⟨o1, hso1, hsp⟩ := bnd_of hsp
  refine k_callV (ci := 11) (C := RX11) (T := TX11) (N := 14) (nA := 0) (As := []) (cs := [w11 cA a0 (v0.1, v0.2.1, v0.2.2.1, (0 : Int32), v0.2.2.2.2.1, v0.2.2.2.2.2.1, v0.2.2.2.2.2.2.1, v0.2.2.2.2.2.2.2.1, v0.2.2.2.2.2.2.2.2.1, v0.2.2.2.2.2.2.2.2.2.1, v0.2.2.2.2.2.2.2.2.2.2.1, v0.2.2.2.2.2.2.2.2.2.2.2.1, v0.2.2.2.2.2.2.2.2.2.2.2.2.1, v0.2.2.2.2.2.2.2.2.2.2.2.2.2)]) (rs := []) (cs1 := [w11 cA a0 o1]) (bs1 := [w11 cA a0 o1]) (rest := []) (st1 := []) ⟨hx, hb, hml, hown, hts⟩ hz hw hA (mX11_laysChains l D cA cR N a0 (v0.1, v0.2.1, v0.2.2.1, (0 : Int32), v0.2.2.2.2.1, v0.2.2.2.2.2.1, v0.2.2.2.2.2.2.1, v0.2.2.2.2.2.2.2.1, v0.2.2.2.2.2.2.2.2.1, v0.2.2.2.2.2.2.2.2.2.1, v0.2.2.2.2.2.2.2.2.2.2.1, v0.2.2.2.2.2.2.2.2.2.2.2.1, v0.2.2.2.2.2.2.2.2.2.2.2.2.1, v0.2.2.2.2.2.2.2.2.2.2.2.2.2) o1 hso1) gX11_chains_X11_laysChains rfl rfl rfl (by decide +kernel) rfl ⟨Nat.le_of_ble_eq_true rfl, Nat.le_of_ble_eq_true rfl⟩ rfl rfl hl.1 rfl (Nat.le_of_ble_eq_true rfl) dX11_chains_6 ⟨Nat.le_of_ble_eq_true rfl, Nat.le_of_ble_eq_true rfl⟩ [0] [] [0] rfl rfl rfl rfl rfl rfl (fun H locs hw => ?_)
  have hw : ww A s.heap D [[(a0.1, .inr (11, [.ref a0.2.1, .ref a0.2.2.1, .int o1.2.2.1, .int o1.2.2.2.1, .ref a0.2.2.2.1, .int o1.2.2.2.2.2.1, .int o1.2.2.2.2.2.2.1, .ref a0.2.2.2.2.1, .int o1.2.2.2.2.2.2.2.2.1, .int o1.2.2.2.2.2.2.2.2.2.1, .int o1.2.2.2.2.2.2.2.2.2.2.1, .int o1.2.2.2.2.2.2.2.2.2.2.2.1, .ref a0.2.2.2.2.2, .int o1.2.2.2.2.2.2.2.2.2.2.2.2.2]))], [(a0.2.1, .inl (cA, o1.1.1, .inl o1.1.2))], [(a0.2.2.1, .inl (cA, o1.2.1.1, .inl o1.2.1.2))], [(a0.2.2.2.1, .inl (cA, o1.2.2.2.2.1.1, .inl o1.2.2.2.2.1.2))], [(a0.2.2.2.2.1, .inl (cA, o1.2.2.2.2.2.2.2.1.1, .inl o1.2.2.2.2.2.2.2.1.2))], [(a0.2.2.2.2.2, .inl (cA, o1.2.2.2.2.2.2.2.2.2.2.2.2.1.1, .inl o1.2.2.2.2.2.2.2.2.2.2.2.2.1.2))]] H locs := hw
  refine lv_iconst (v := 0) hx hb dX11_chains_9 (by decide) ?_
  refine lv_istore_n (lv' := [(1, .int (0 : Int32)), (0, .ref a0.1)]) hx hb dX11_chains_10 rfl hl (by decide) rfl (fun ls hl => ?_)
  refine lv_iconst (v := 0) hx hb dX11_chains_11 (by decide) ?_
  refine lv_istore_n (lv' := [(2, .int (0 : Int32)), (1, .int (0 : Int32)), (0, .ref a0.1)]) hx hb dX11_chains_12 rfl hl (by decide) rfl (fun ls hl => ?_)
  have L13 : ∀ (n13 : Nat) (z13_0 : Int32) (z13_1 : Int32) (o14 : Int32 × Int32), qX11_chains_13 o1 n13 z13_0 z13_1 = some o14 → ∀ (H : Heap) (locs : List Loc) (ls : Array Slot), ww A s.heap D [[(a0.1, .inr (11, [.ref a0.2.1, .ref a0.2.2.1, .int o1.2.2.1, .int o1.2.2.2.1, .ref a0.2.2.2.1, .int o1.2.2.2.2.2.1, .int o1.2.2.2.2.2.2.1, .ref a0.2.2.2.2.1, .int o1.2.2.2.2.2.2.2.2.1, .int o1.2.2.2.2.2.2.2.2.2.1, .int o1.2.2.2.2.2.2.2.2.2.2.1, .int o1.2.2.2.2.2.2.2.2.2.2.2.1, .ref a0.2.2.2.2.2, .int o1.2.2.2.2.2.2.2.2.2.2.2.2.2]))], [(a0.2.1, .inl (cA, o1.1.1, .inl o1.1.2))], [(a0.2.2.1, .inl (cA, o1.2.1.1, .inl o1.2.1.2))], [(a0.2.2.2.1, .inl (cA, o1.2.2.2.2.1.1, .inl o1.2.2.2.2.1.2))], [(a0.2.2.2.2.1, .inl (cA, o1.2.2.2.2.2.2.2.1.1, .inl o1.2.2.2.2.2.2.2.1.2))], [(a0.2.2.2.2.2, .inl (cA, o1.2.2.2.2.2.2.2.2.2.2.2.2.1.1, .inl o1.2.2.2.2.2.2.2.2.2.2.2.2.1.2))]] H locs → lv_has ls 3 [(0, .ref a0.1), (1, .int z13_0), (2, .int z13_1)] → (∀ (y48 : Int32 × Int32), o14 = y48 → ∀ (H : Heap) (locs : List Loc) (ls : Array Slot), ww A s.heap D [[(a0.1, .inr (11, [.ref a0.2.1, .ref a0.2.2.1, .int o1.2.2.1, .int o1.2.2.2.1, .ref a0.2.2.2.1, .int o1.2.2.2.2.2.1, .int o1.2.2.2.2.2.2.1, .ref a0.2.2.2.2.1, .int o1.2.2.2.2.2.2.2.2.1, .int o1.2.2.2.2.2.2.2.2.2.1, .int o1.2.2.2.2.2.2.2.2.2.2.1, .int o1.2.2.2.2.2.2.2.2.2.2.2.1, .ref a0.2.2.2.2.2, .int o1.2.2.2.2.2.2.2.2.2.2.2.2.2]))], [(a0.2.1, .inl (cA, o1.1.1, .inl o1.1.2))], [(a0.2.2.1, .inl (cA, o1.2.1.1, .inl o1.2.1.2))], [(a0.2.2.2.1, .inl (cA, o1.2.2.2.2.1.1, .inl o1.2.2.2.2.1.2))], [(a0.2.2.2.2.1, .inl (cA, o1.2.2.2.2.2.2.2.1.1, .inl o1.2.2.2.2.2.2.2.1.2))], [(a0.2.2.2.2.2, .inl (cA, o1.2.2.2.2.2.2.2.2.2.2.2.2.1.1, .inl o1.2.2.2.2.2.2.2.2.2.2.2.2.1.2))]] H locs → lv_has ls 3 [(0, .ref a0.1), (1, .int y48.1), (2, .int y48.2)] → W p l e rX11_chains s m args below meth c H locs 0 0 Q (F0 m 48 ls [])) → W p l e rX11_chains s m args below meth c H locs 0 0 Q (F0 m 13 ls []) := by
    intro n13
    induction n13 with
    | zero => intro z13_0 z13_1 o14 hsp; cases hsp
    | succ n13 ih13 =>
      intro z13_0 z13_1 o14 hsp H locs ls hw hl kx13_48
      have hsp : (grd (vp_in (9 : Int32) o1.1.1) (if (o1.1.2 (9 : Int32).toNatClampNeg) ≤ z13_1 then (some (z13_0, z13_1)) else (grd (vp_in z13_1 o1.2.2.2.2.2.2.2.2.2.2.2.2.1.1) (((if (o1.2.2.2.2.2.2.2.2.2.2.2.2.1.2 z13_1.toNatClampNeg) = (-1 : Int32) then (some (1 : Int32)) else (some (0 : Int32))) : Option (Int32)).bind (fun j19 => (qX11_chains_13 o1 n13 (z13_0 + j19) (z13_1 + 1))))))) = some o14 := hsp
      refine lv_iload_n hx hb dX11_chains_13 rfl (lv_at hl 2 rfl) ?_
      refine lv_aload_n hx hb dX11_chains_14 rfl (lv_at hl 0 rfl) ?_
      refine k_get (ci := 11) (v := .ref a0.2.1) (C := RX11) (T := TX11) (N := 14) hx hb hts hown hz hw (by decide +kernel) 0 rfl rfl 0 (by decide) (hts (.fieldLink RX11 7 "OccupancyMonitorModel" "all" "[I") (by decide +kernel)) (fun _ h9 => h9) rfl dX11_chains_15 ?_
      refine lv_bipush (v := 9) hx hb dX11_chains_18 (by decide) ?_
      obtain ⟨g15, hsp⟩ := grd_of hsp
      refine k_iald hx hb hz hw 1 rfl g15 dX11_chains_20 ?_
      refine lv_icmp_ge (tgt := 48) hx hb dX11_chains_21 (by decide) (fun c16 => ?_) (fun c16 => ?_)
      · have hsp := ift c16 hsp
        have hsp := Option.some.inj hsp
        subst hsp
        exact kx13_48 _ rfl _ _ _ hw (lv_sub hl [0, 1, 2] rfl)
      · have hsp := iff_ c16 hsp
        refine lv_iload_n hx hb dX11_chains_24 rfl (lv_at hl 1 rfl) ?_
        refine lv_aload_n hx hb dX11_chains_25 rfl (lv_at hl 0 rfl) ?_
        refine k_get (ci := 11) (v := .ref a0.2.2.2.2.2) (C := RX11) (T := TX11) (N := 14) hx hb hts hown hz hw (by decide +kernel) 0 rfl rfl 12 (by decide) (hts (.fieldLink RX11 22 "OccupancyMonitorModel" "before" "[I") (by decide +kernel)) (fun _ h9 => h9) rfl dX11_chains_26 ?_
        refine lv_iload_n hx hb dX11_chains_29 rfl (lv_at hl 2 rfl) ?_
        obtain ⟨g17, hsp⟩ := grd_of hsp
        refine k_iald hx hb hz hw 5 rfl g17 dX11_chains_30 ?_
        refine lv_iconst (v := -1) hx hb dX11_chains_31 (by decide) ?_
        obtain ⟨j19, hsj19, hkj19⟩ := bnd_of hsp
        have Jj19 : ∀ (H : Heap) (locs : List Loc) (ls : Array Slot), ww A s.heap D [[(a0.1, .inr (11, [.ref a0.2.1, .ref a0.2.2.1, .int o1.2.2.1, .int o1.2.2.2.1, .ref a0.2.2.2.1, .int o1.2.2.2.2.2.1, .int o1.2.2.2.2.2.2.1, .ref a0.2.2.2.2.1, .int o1.2.2.2.2.2.2.2.2.1, .int o1.2.2.2.2.2.2.2.2.2.1, .int o1.2.2.2.2.2.2.2.2.2.2.1, .int o1.2.2.2.2.2.2.2.2.2.2.2.1, .ref a0.2.2.2.2.2, .int o1.2.2.2.2.2.2.2.2.2.2.2.2.2]))], [(a0.2.1, .inl (cA, o1.1.1, .inl o1.1.2))], [(a0.2.2.1, .inl (cA, o1.2.1.1, .inl o1.2.1.2))], [(a0.2.2.2.1, .inl (cA, o1.2.2.2.2.1.1, .inl o1.2.2.2.2.1.2))], [(a0.2.2.2.2.1, .inl (cA, o1.2.2.2.2.2.2.2.1.1, .inl o1.2.2.2.2.2.2.2.1.2))], [(a0.2.2.2.2.2, .inl (cA, o1.2.2.2.2.2.2.2.2.2.2.2.2.1.1, .inl o1.2.2.2.2.2.2.2.2.2.2.2.2.1.2))]] H locs → lv_has ls 3 [(0, .ref a0.1), (1, .int z13_0), (2, .int z13_1)] → W p l e rX11_chains s m args below meth c H locs 0 0 Q (F0 m 40 ls [.int j19, .int z13_0]) := by
          intro H locs ls hw hl
          have hsp := hkj19
          refine lv_iadd hx hb dX11_chains_40 ?_
          refine lv_istore_n (lv' := [(1, .int (z13_0 + j19)), (0, .ref a0.1), (2, .int z13_1)]) hx hb dX11_chains_41 rfl hl (by decide) rfl (fun ls hl => ?_)
          refine lv_iinc (v := (z13_1 + 1)) (lv' := [(2, .int (z13_1 + 1)), (1, .int (z13_0 + j19)), (0, .ref a0.1)]) hx hb dX11_chains_42 hl (k := 2) rfl rfl (by decide) rfl (fun ls hl => ?_)
          refine lv_goto (tgt := 13) hx hb dX11_chains_45 (by decide) ?_
          exact ih13 (z13_0 + j19) (z13_1 + 1) _ hsp _ _ _ hw (lv_sub hl [2, 1, 0] rfl) kx13_48
        have hsp := hsj19
        refine lv_icmp_ne (tgt := 39) hx hb dX11_chains_32 (by decide) (fun c20 => ?_) (fun c20 => ?_)
        · have hsp := iff_ c20 hsp
          refine lv_iconst (v := 0) hx hb dX11_chains_39 (by decide) ?_
          have hsp := Option.some.inj hsp
          subst hsp
          exact Jj19 _ _ _ hw (lv_sub hl [0, 1, 2] rfl)
        · have hsp := ift c20 hsp
          refine lv_iconst (v := 1) hx hb dX11_chains_35 (by decide) ?_
          refine lv_goto (tgt := 40) hx hb dX11_chains_36 (by decide) ?_
          have hsp := Option.some.inj hsp
          subst hsp
          exact Jj19 _ _ _ hw (lv_sub hl [0, 1, 2] rfl)
  obtain ⟨o14, hso14, hsp⟩ := bnd_of hsp
  refine L13 N (0 : Int32) (0 : Int32) _ hso14 _ _ _ hw (lv_sub hl [2, 1, 0] rfl) (fun y48 hy48 H locs ls hw hl => ?_)
  cases hy48
  refine lv_iload_n hx hb dX11_chains_48 rfl (lv_at hl 1 rfl) ?_
  have hsp := Option.some.inj hsp
  subst hsp
  have hw : ww A s.heap D [w11 cA a0 o1] H locs := hw
  subst hQ
  exact k_iret hx hb hr hlk hw dX11_chains_49
noncomputable def sX11_hopInterval (N : Nat) (v0 : V11) (p1 : Int32) : Option (UInt64 × V11) := ((sX11_isEvent v0 p1).bind (fun o1 => ((sX11_goes v0 o1 (1 : Int32)).bind (fun o2 => (if o2.1 = 0 then (some (FP.dconst0, o2.2)) else ((sX11_laysChains N o2.2).bind (fun o4 => ((sX11_lengthOf N o4 p1).bind (fun o5 => ((sX11_eventAt o5.2.2.2.2.2.2.2.2.2.2.2.2.2.2 (1 : Int32)).bind (fun o6 => (grd (vp_in o6 o5.2.1.1) ((sX11_firstOf N o5.2 p1).bind (fun o8 => ((sX11_eventAt o8 (1 : Int32)).bind (fun o9 => (grd (vp_in o9 o5.2.1.1) (if o5.1 = (1 : Int32) then (some (FP.dconst0, o5.2)) else (grd (vf_n64 (FP.ddiv (FP.i2d ((o5.2.1.2 o6.toNatClampNeg) - (o5.2.1.2 o9.toNatClampNeg))) (FP.i2d (o5.1 - (1 : Int32))))) (some ((FP.ddiv (FP.i2d ((o5.2.1.2 o6.toNatClampNeg) - (o5.2.1.2 o9.toNatClampNeg))) (FP.i2d (o5.1 - (1 : Int32)))), o5.2)))))))))))))))))))))
abbrev rX11_hopInterval : Room := { frames := 2, cells := 0, slots := 0, locals := 50 }
set_option maxHeartbeats 4000000 in
set_option maxRecDepth 100000 in
theorem mX11_hopInterval (l : Launch) (D : va_G) (cA cR : ClassId) (N : Nat) (a0 : A11) (v0 : V11) (p1 : Int32) (o : UInt64 × V11) (hsp : sX11_hopInterval N v0 p1 = some o) : MI l yX11_hopInterval wsX11_hopInterval rX11_hopInterval D cA cR [.ref a0.1, .int p1] [w11 cA a0 v0] (some (.double o.1)) [w11 cA a0 o.2] 0 0 := by
  have hsp : ((sX11_isEvent v0 p1).bind (fun o1 => ((sX11_goes v0 o1 (1 : Int32)).bind (fun o2 => (if o2.1 = 0 then (some (FP.dconst0, o2.2)) else ((sX11_laysChains N o2.2).bind (fun o4 => ((sX11_lengthOf N o4 p1).bind (fun o5 => ((sX11_eventAt o5.2.2.2.2.2.2.2.2.2.2.2.2.2.2 (1 : Int32)).bind (fun o6 => (grd (vp_in o6 o5.2.1.1) ((sX11_firstOf N o5.2 p1).bind (fun o8 => ((sX11_eventAt o8 (1 : Int32)).bind (fun o9 => (grd (vp_in o9 o5.2.1.1) (if o5.1 = (1 : Int32) then (some (FP.dconst0, o5.2)) else (grd (vf_n64 (FP.ddiv (FP.i2d ((o5.2.1.2 o6.toNatClampNeg) - (o5.2.1.2 o9.toNatClampNeg))) (FP.i2d (o5.1 - (1 : Int32))))) (some ((FP.ddiv (FP.i2d ((o5.2.1.2 o6.toNatClampNeg) - (o5.2.1.2 o9.toNatClampNeg))) (FP.i2d (o5.1 - (1 : Int32)))), o5.2))))))))))))))))))))) = some o := hsp
  refine MI.ofW (cc := cX11_hopInterval) (maxL := 7) (ret := (some .double)) (by decide) rfl (Nat.le_of_ble_eq_true rfl) ?_
  intro p e s m args below meth c A ls Q H locs hx hb hr hlk hml hown hnm hts hz hA hQ hw hl
  have hl : lv_has ls 7 [(0, .ref a0.1), (1, .int p1)] := hl
  have hw : ww A s.heap D [[(a0.1, .inr (11, [.ref a0.2.1, .ref a0.2.2.1, .int v0.2.2.1, .int v0.2.2.2.1, .ref a0.2.2.2.1, .int v0.2.2.2.2.2.1, .int v0.2.2.2.2.2.2.1, .ref a0.2.2.2.2.1, .int v0.2.2.2.2.2.2.2.2.1, .int v0.2.2.2.2.2.2.2.2.2.1, .int v0.2.2.2.2.2.2.2.2.2.2.1, .int v0.2.2.2.2.2.2.2.2.2.2.2.1, .ref a0.2.2.2.2.2, .int v0.2.2.2.2.2.2.2.2.2.2.2.2.2]))], [(a0.2.1, .inl (cA, v0.1.1, .inl v0.1.2))], [(a0.2.2.1, .inl (cA, v0.2.1.1, .inl v0.2.1.2))], [(a0.2.2.2.1, .inl (cA, v0.2.2.2.2.1.1, .inl v0.2.2.2.2.1.2))], [(a0.2.2.2.2.1, .inl (cA, v0.2.2.2.2.2.2.2.1.1, .inl v0.2.2.2.2.2.2.2.1.2))], [(a0.2.2.2.2.2, .inl (cA, v0.2.2.2.2.2.2.2.2.2.2.2.2.1.1, .inl v0.2.2.2.2.2.2.2.2.2.2.2.2.1.2))]] H locs := hw
  refine lv_aload_n hx hb dX11_hopInterval_0 rfl (lv_at hl 0 rfl) ?_
  refine lv_aload_n hx hb dX11_hopInterval_1 rfl (lv_at hl 0 rfl) ?_
  refine lv_iload_n hx hb dX11_hopInterval_2 rfl (lv_at hl 1 rfl) ?_
  have hw : ww A s.heap D [w11 cA a0 v0] H locs := hw
  obtain ⟨o1, hso1, hsp⟩ := bnd_of hsp
  refine k_callV (ci := 11) (C := RX11) (T := TX11) (N := 14) (nA := 1) (As := [.int p1]) (cs := [w11 cA a0 v0]) (rs := []) (cs1 := [w11 cA a0 v0]) (bs1 := [w11 cA a0 v0]) (rest := [.ref a0.1]) (st1 := [.int o1, .ref a0.1]) ⟨hx, hb, hml, hown, hts⟩ hz hw hA (mX11_isEvent l D cA cR a0 v0 p1 o1 hso1) gX11_hopInterval_X11_isEvent rfl rfl rfl (by decide +kernel) rfl ⟨Nat.le_of_ble_eq_true rfl, Nat.le_of_ble_eq_true rfl⟩ rfl rfl hl.1 rfl (Nat.le_of_ble_eq_true rfl) dX11_hopInterval_3 ⟨Nat.le_of_ble_eq_true rfl, Nat.le_of_ble_eq_true rfl⟩ [0] [] [0] rfl rfl rfl rfl rfl rfl (fun H locs hw => ?_)
  have hw : ww A s.heap D [[(a0.1, .inr (11, [.ref a0.2.1, .ref a0.2.2.1, .int v0.2.2.1, .int v0.2.2.2.1, .ref a0.2.2.2.1, .int v0.2.2.2.2.2.1, .int v0.2.2.2.2.2.2.1, .ref a0.2.2.2.2.1, .int v0.2.2.2.2.2.2.2.2.1, .int v0.2.2.2.2.2.2.2.2.2.1, .int v0.2.2.2.2.2.2.2.2.2.2.1, .int v0.2.2.2.2.2.2.2.2.2.2.2.1, .ref a0.2.2.2.2.2, .int v0.2.2.2.2.2.2.2.2.2.2.2.2.2]))], [(a0.2.1, .inl (cA, v0.1.1, .inl v0.1.2))], [(a0.2.2.1, .inl (cA, v0.2.1.1, .inl v0.2.1.2))], [(a0.2.2.2.1, .inl (cA, v0.2.2.2.2.1.1, .inl v0.2.2.2.2.1.2))], [(a0.2.2.2.2.1, .inl (cA, v0.2.2.2.2.2.2.2.1.1, .inl v0.2.2.2.2.2.2.2.1.2))], [(a0.2.2.2.2.2, .inl (cA, v0.2.2.2.2.2.2.2.2.2.2.2.2.1.1, .inl v0.2.2.2.2.2.2.2.2.2.2.2.2.1.2))]] H locs := hw
  refine lv_iconst (v := 1) hx hb dX11_hopInterval_6 (by decide) ?_
  have hw : ww A s.heap D [w11 cA a0 v0] H locs := hw
  obtain ⟨o2, hso2, hsp⟩ := bnd_of hsp
  refine k_callV (ci := 11) (C := RX11) (T := TX11) (N := 14) (nA := 2) (As := [.int o1, .int (1 : Int32)]) (cs := [w11 cA a0 v0]) (rs := []) (cs1 := [w11 cA a0 o2.2]) (bs1 := [w11 cA a0 o2.2]) (rest := []) (st1 := [.int o2.1]) ⟨hx, hb, hml, hown, hts⟩ hz hw hA (mX11_goes l D cA cR a0 v0 o1 (1 : Int32) o2 hso2) gX11_hopInterval_X11_goes rfl rfl rfl (by decide +kernel) rfl ⟨Nat.le_of_ble_eq_true rfl, Nat.le_of_ble_eq_true rfl⟩ rfl rfl hl.1 rfl (Nat.le_of_ble_eq_true rfl) dX11_hopInterval_7 ⟨Nat.le_of_ble_eq_true rfl, Nat.le_of_ble_eq_true rfl⟩ [0] [] [0] rfl rfl rfl rfl rfl rfl (fun H locs hw => ?_)
  have hw : ww A s.heap D [[(a0.1, .inr (11, [.ref a0.2.1, .ref a0.2.2.1, .int o2.2.2.2.1, .int o2.2.2.2.2.1, .ref a0.2.2.2.1, .int o2.2.2.2.2.2.2.1, .int o2.2.2.2.2.2.2.2.1, .ref a0.2.2.2.2.1, .int o2.2.2.2.2.2.2.2.2.2.1, .int o2.2.2.2.2.2.2.2.2.2.2.1, .int o2.2.2.2.2.2.2.2.2.2.2.2.1, .int o2.2.2.2.2.2.2.2.2.2.2.2.2.1, .ref a0.2.2.2.2.2, .int o2.2.2.2.2.2.2.2.2.2.2.2.2.2.2]))], [(a0.2.1, .inl (cA, o2.2.1.1, .inl o2.2.1.2))], [(a0.2.2.1, .inl (cA, o2.2.2.1.1, .inl o2.2.2.1.2))], [(a0.2.2.2.1, .inl (cA, o2.2.2.2.2.2.1.1, .inl o2.2.2.2.2.2.1.2))], [(a0.2.2.2.2.1, .inl (cA, o2.2.2.2.2.2.2.2.2.1.1, .inl o2.2.2.2.2.2.2.2.2.1.2))], [(a0.2.2.2.2.2, .inl (cA, o2.2.2.2.2.2.2.2.2.2.2.2.2.2.1.1, .inl o2.2.2.2.2.2.2.2.2.2.2.2.2.2.1.2))]] H locs := hw
  refine lv_if_ne (tgt := 15) hx hb dX11_hopInterval_10 (by decide) (fun c3 => ?_) (fun c3 => ?_)
  · have hsp := iff_ c3 hsp
    refine lv_aload_n hx hb dX11_hopInterval_15 rfl (lv_at hl 0 rfl) ?_
    have hw : ww A s.heap D [w11 cA a0 o2.2] H locs := hw
    obtain ⟨o4, hso4, hsp⟩ := bnd_of hsp
    refine k_callV (ci := 11) (C := RX11) (T := TX11) (N := 14) (nA := 0) (As := []) (cs := [w11 cA a0 o2.2]) (rs := []) (cs1 := [w11 cA a0 o4]) (bs1 := [w11 cA a0 o4]) (rest := []) (st1 := []) ⟨hx, hb, hml, hown, hts⟩ hz hw hA (mX11_laysChains l D cA cR N a0 o2.2 o4 hso4) gX11_hopInterval_X11_laysChains rfl rfl rfl (by decide +kernel) rfl ⟨Nat.le_of_ble_eq_true rfl, Nat.le_of_ble_eq_true rfl⟩ rfl rfl hl.1 rfl (Nat.le_of_ble_eq_true rfl) dX11_hopInterval_16 ⟨Nat.le_of_ble_eq_true rfl, Nat.le_of_ble_eq_true rfl⟩ [0] [] [0] rfl rfl rfl rfl rfl rfl (fun H locs hw => ?_)
    have hw : ww A s.heap D [[(a0.1, .inr (11, [.ref a0.2.1, .ref a0.2.2.1, .int o4.2.2.1, .int o4.2.2.2.1, .ref a0.2.2.2.1, .int o4.2.2.2.2.2.1, .int o4.2.2.2.2.2.2.1, .ref a0.2.2.2.2.1, .int o4.2.2.2.2.2.2.2.2.1, .int o4.2.2.2.2.2.2.2.2.2.1, .int o4.2.2.2.2.2.2.2.2.2.2.1, .int o4.2.2.2.2.2.2.2.2.2.2.2.1, .ref a0.2.2.2.2.2, .int o4.2.2.2.2.2.2.2.2.2.2.2.2.2]))], [(a0.2.1, .inl (cA, o4.1.1, .inl o4.1.2))], [(a0.2.2.1, .inl (cA, o4.2.1.1, .inl o4.2.1.2))], [(a0.2.2.2.1, .inl (cA, o4.2.2.2.2.1.1, .inl o4.2.2.2.2.1.2))], [(a0.2.2.2.2.1, .inl (cA, o4.2.2.2.2.2.2.2.1.1, .inl o4.2.2.2.2.2.2.2.1.2))], [(a0.2.2.2.2.2, .inl (cA, o4.2.2.2.2.2.2.2.2.2.2.2.2.1.1, .inl o4.2.2.2.2.2.2.2.2.2.2.2.2.1.2))]] H locs := hw
    refine lv_aload_n hx hb dX11_hopInterval_19 rfl (lv_at hl 0 rfl) ?_
    refine lv_iload_n hx hb dX11_hopInterval_20 rfl (lv_at hl 1 rfl) ?_
    have hw : ww A s.heap D [w11 cA a0 o4] H locs := hw
    obtain ⟨o5, hso5, hsp⟩ := bnd_of hsp
    refine k_callV (ci := 11) (C := RX11) (T := TX11) (N := 14) (nA := 1) (As := [.int p1]) (cs := [w11 cA a0 o4]) (rs := []) (cs1 := [w11 cA a0 o5.2]) (bs1 := [w11 cA a0 o5.2]) (rest := []) (st1 := [.int o5.1]) ⟨hx, hb, hml, hown, hts⟩ hz hw hA (mX11_lengthOf l D cA cR N a0 o4 p1 o5 hso5) gX11_hopInterval_X11_lengthOf rfl rfl rfl (by decide +kernel) rfl ⟨Nat.le_of_ble_eq_true rfl, Nat.le_of_ble_eq_true rfl⟩ rfl rfl hl.1 rfl (Nat.le_of_ble_eq_true rfl) dX11_hopInterval_21 ⟨Nat.le_of_ble_eq_true rfl, Nat.le_of_ble_eq_true rfl⟩ [0] [] [0] rfl rfl rfl rfl rfl rfl (fun H locs hw => ?_)
    have hw : ww A s.heap D [[(a0.1, .inr (11, [.ref a0.2.1, .ref a0.2.2.1, .int o5.2.2.2.1, .int o5.2.2.2.2.1, .ref a0.2.2.2.1, .int o5.2.2.2.2.2.2.1, .int o5.2.2.2.2.2.2.2.1, .ref a0.2.2.2.2.1, .int o5.2.2.2.2.2.2.2.2.2.1, .int o5.2.2.2.2.2.2.2.2.2.2.1, .int o5.2.2.2.2.2.2.2.2.2.2.2.1, .int o5.2.2.2.2.2.2.2.2.2.2.2.2.1, .ref a0.2.2.2.2.2, .int o5.2.2.2.2.2.2.2.2.2.2.2.2.2.2]))], [(a0.2.1, .inl (cA, o5.2.1.1, .inl o5.2.1.2))], [(a0.2.2.1, .inl (cA, o5.2.2.1.1, .inl o5.2.2.1.2))], [(a0.2.2.2.1, .inl (cA, o5.2.2.2.2.2.1.1, .inl o5.2.2.2.2.2.1.2))], [(a0.2.2.2.2.1, .inl (cA, o5.2.2.2.2.2.2.2.2.1.1, .inl o5.2.2.2.2.2.2.2.2.1.2))], [(a0.2.2.2.2.2, .inl (cA, o5.2.2.2.2.2.2.2.2.2.2.2.2.2.1.1, .inl o5.2.2.2.2.2.2.2.2.2.2.2.2.2.1.2))]] H locs := hw
    refine lv_istore_n (lv' := [(2, .int o5.1), (0, .ref a0.1), (1, .int p1)]) hx hb dX11_hopInterval_24 rfl hl (by decide) rfl (fun ls hl => ?_)
    refine lv_aload_n hx hb dX11_hopInterval_25 rfl (lv_at hl 1 rfl) ?_
    refine k_get (ci := 11) (v := .ref a0.2.1) (C := RX11) (T := TX11) (N := 14) hx hb hts hown hz hw (by decide +kernel) 0 rfl rfl 0 (by decide) (hts (.fieldLink RX11 7 "OccupancyMonitorModel" "all" "[I") (by decide +kernel)) (fun _ h9 => h9) rfl dX11_hopInterval_26 ?_
    refine lv_aload_n hx hb dX11_hopInterval_29 rfl (lv_at hl 1 rfl) ?_
    refine k_get (ci := 11) (v := .int o5.2.2.2.2.2.2.2.2.2.2.2.2.2.2) (C := RX11) (T := TX11) (N := 14) hx hb hts hown hz hw (by decide +kernel) 0 rfl rfl 13 (by decide) (hts (.fieldLink RX11 176 "OccupancyMonitorModel" "last" "I") (by decide +kernel)) (fun _ h9 => h9) rfl dX11_hopInterval_30 ?_
    refine lv_iconst (v := 1) hx hb dX11_hopInterval_33 (by decide) ?_
    obtain ⟨o6, hso6, hsp⟩ := bnd_of hsp
    refine k_callS (nA := 2) (As := [.int o5.2.2.2.2.2.2.2.2.2.2.2.2.2.2, .int (1 : Int32)]) (cs := []) (rs := [[(a0.1, .inr (11, [.ref a0.2.1, .ref a0.2.2.1, .int o5.2.2.2.1, .int o5.2.2.2.2.1, .ref a0.2.2.2.1, .int o5.2.2.2.2.2.2.1, .int o5.2.2.2.2.2.2.2.1, .ref a0.2.2.2.2.1, .int o5.2.2.2.2.2.2.2.2.2.1, .int o5.2.2.2.2.2.2.2.2.2.2.1, .int o5.2.2.2.2.2.2.2.2.2.2.2.1, .int o5.2.2.2.2.2.2.2.2.2.2.2.2.1, .ref a0.2.2.2.2.2, .int o5.2.2.2.2.2.2.2.2.2.2.2.2.2.2]))], [(a0.2.1, .inl (cA, o5.2.1.1, .inl o5.2.1.2))], [(a0.2.2.1, .inl (cA, o5.2.2.1.1, .inl o5.2.2.1.2))], [(a0.2.2.2.1, .inl (cA, o5.2.2.2.2.2.1.1, .inl o5.2.2.2.2.2.1.2))], [(a0.2.2.2.2.1, .inl (cA, o5.2.2.2.2.2.2.2.2.1.1, .inl o5.2.2.2.2.2.2.2.2.1.2))], [(a0.2.2.2.2.2, .inl (cA, o5.2.2.2.2.2.2.2.2.2.2.2.2.2.1.1, .inl o5.2.2.2.2.2.2.2.2.2.2.2.2.2.1.2))]]) (cs1 := []) (bs1 := [[(a0.1, .inr (11, [.ref a0.2.1, .ref a0.2.2.1, .int o5.2.2.2.1, .int o5.2.2.2.2.1, .ref a0.2.2.2.1, .int o5.2.2.2.2.2.2.1, .int o5.2.2.2.2.2.2.2.1, .ref a0.2.2.2.2.1, .int o5.2.2.2.2.2.2.2.2.2.1, .int o5.2.2.2.2.2.2.2.2.2.2.1, .int o5.2.2.2.2.2.2.2.2.2.2.2.1, .int o5.2.2.2.2.2.2.2.2.2.2.2.2.1, .ref a0.2.2.2.2.2, .int o5.2.2.2.2.2.2.2.2.2.2.2.2.2.2]))], [(a0.2.1, .inl (cA, o5.2.1.1, .inl o5.2.1.2))], [(a0.2.2.1, .inl (cA, o5.2.2.1.1, .inl o5.2.2.1.2))], [(a0.2.2.2.1, .inl (cA, o5.2.2.2.2.2.1.1, .inl o5.2.2.2.2.2.1.2))], [(a0.2.2.2.2.1, .inl (cA, o5.2.2.2.2.2.2.2.2.1.1, .inl o5.2.2.2.2.2.2.2.2.1.2))], [(a0.2.2.2.2.2, .inl (cA, o5.2.2.2.2.2.2.2.2.2.2.2.2.2.1.1, .inl o5.2.2.2.2.2.2.2.2.2.2.2.2.2.1.2))]]) (rest := [.ref a0.2.1]) (st1 := [.int o6, .ref a0.2.1]) ⟨hx, hb, hml, hown, hts⟩ hz hw hA (mX11_eventAt l D cA cR o5.2.2.2.2.2.2.2.2.2.2.2.2.2.2 (1 : Int32) o6 hso6) gX11_hopInterval_X11_eventAt rfl rfl rfl (by decide +kernel) rfl ⟨Nat.le_of_ble_eq_true rfl, Nat.le_of_ble_eq_true rfl⟩ hl.1 rfl (Nat.le_of_ble_eq_true rfl) dX11_hopInterval_34 ⟨Nat.le_of_ble_eq_true rfl, Nat.le_of_ble_eq_true rfl⟩ [] [0, 1, 2, 3, 4, 5] [0, 1, 2, 3, 4, 5] rfl rfl rfl rfl rfl rfl (fun H locs hw => ?_)
    obtain ⟨g7, hsp⟩ := grd_of hsp
    refine k_iald hx hb hz hw 1 rfl g7 dX11_hopInterval_37 ?_
    refine lv_aload_n hx hb dX11_hopInterval_38 rfl (lv_at hl 1 rfl) ?_
    refine k_get (ci := 11) (v := .ref a0.2.1) (C := RX11) (T := TX11) (N := 14) hx hb hts hown hz hw (by decide +kernel) 0 rfl rfl 0 (by decide) (hts (.fieldLink RX11 7 "OccupancyMonitorModel" "all" "[I") (by decide +kernel)) (fun _ h9 => h9) rfl dX11_hopInterval_39 ?_
    refine lv_aload_n hx hb dX11_hopInterval_42 rfl (lv_at hl 1 rfl) ?_
    refine lv_iload_n hx hb dX11_hopInterval_43 rfl (lv_at hl 2 rfl) ?_
    have hw : ww A s.heap D [w11 cA a0 o5.2] H locs := hw
    obtain ⟨o8, hso8, hsp⟩ := bnd_of hsp
    refine k_callV (ci := 11) (C := RX11) (T := TX11) (N := 14) (nA := 1) (As := [.int p1]) (cs := [w11 cA a0 o5.2]) (rs := []) (cs1 := [w11 cA a0 o5.2]) (bs1 := [w11 cA a0 o5.2]) (rest := [.ref a0.2.1, .int (o5.2.1.2 o6.toNatClampNeg)]) (st1 := [.int o8, .ref a0.2.1, .int (o5.2.1.2 o6.toNatClampNeg)]) ⟨hx, hb, hml, hown, hts⟩ hz hw hA (mX11_firstOf l D cA cR N a0 o5.2 p1 o8 hso8) gX11_hopInterval_X11_firstOf rfl rfl rfl (by decide +kernel) rfl ⟨Nat.le_of_ble_eq_true rfl, Nat.le_of_ble_eq_true rfl⟩ rfl rfl hl.1 rfl (Nat.le_of_ble_eq_true rfl) dX11_hopInterval_44 ⟨Nat.le_of_ble_eq_true rfl, Nat.le_of_ble_eq_true rfl⟩ [0] [] [0] rfl rfl rfl rfl rfl rfl (fun H locs hw => ?_)
    have hw : ww A s.heap D [[(a0.1, .inr (11, [.ref a0.2.1, .ref a0.2.2.1, .int o5.2.2.2.1, .int o5.2.2.2.2.1, .ref a0.2.2.2.1, .int o5.2.2.2.2.2.2.1, .int o5.2.2.2.2.2.2.2.1, .ref a0.2.2.2.2.1, .int o5.2.2.2.2.2.2.2.2.2.1, .int o5.2.2.2.2.2.2.2.2.2.2.1, .int o5.2.2.2.2.2.2.2.2.2.2.2.1, .int o5.2.2.2.2.2.2.2.2.2.2.2.2.1, .ref a0.2.2.2.2.2, .int o5.2.2.2.2.2.2.2.2.2.2.2.2.2.2]))], [(a0.2.1, .inl (cA, o5.2.1.1, .inl o5.2.1.2))], [(a0.2.2.1, .inl (cA, o5.2.2.1.1, .inl o5.2.2.1.2))], [(a0.2.2.2.1, .inl (cA, o5.2.2.2.2.2.1.1, .inl o5.2.2.2.2.2.1.2))], [(a0.2.2.2.2.1, .inl (cA, o5.2.2.2.2.2.2.2.2.1.1, .inl o5.2.2.2.2.2.2.2.2.1.2))], [(a0.2.2.2.2.2, .inl (cA, o5.2.2.2.2.2.2.2.2.2.2.2.2.2.1.1, .inl o5.2.2.2.2.2.2.2.2.2.2.2.2.2.1.2))]] H locs := hw
    refine lv_iconst (v := 1) hx hb dX11_hopInterval_47 (by decide) ?_
    obtain ⟨o9, hso9, hsp⟩ := bnd_of hsp
    refine k_callS (nA := 2) (As := [.int o8, .int (1 : Int32)]) (cs := []) (rs := [[(a0.1, .inr (11, [.ref a0.2.1, .ref a0.2.2.1, .int o5.2.2.2.1, .int o5.2.2.2.2.1, .ref a0.2.2.2.1, .int o5.2.2.2.2.2.2.1, .int o5.2.2.2.2.2.2.2.1, .ref a0.2.2.2.2.1, .int o5.2.2.2.2.2.2.2.2.2.1, .int o5.2.2.2.2.2.2.2.2.2.2.1, .int o5.2.2.2.2.2.2.2.2.2.2.2.1, .int o5.2.2.2.2.2.2.2.2.2.2.2.2.1, .ref a0.2.2.2.2.2, .int o5.2.2.2.2.2.2.2.2.2.2.2.2.2.2]))], [(a0.2.1, .inl (cA, o5.2.1.1, .inl o5.2.1.2))], [(a0.2.2.1, .inl (cA, o5.2.2.1.1, .inl o5.2.2.1.2))], [(a0.2.2.2.1, .inl (cA, o5.2.2.2.2.2.1.1, .inl o5.2.2.2.2.2.1.2))], [(a0.2.2.2.2.1, .inl (cA, o5.2.2.2.2.2.2.2.2.1.1, .inl o5.2.2.2.2.2.2.2.2.1.2))], [(a0.2.2.2.2.2, .inl (cA, o5.2.2.2.2.2.2.2.2.2.2.2.2.2.1.1, .inl o5.2.2.2.2.2.2.2.2.2.2.2.2.2.1.2))]]) (cs1 := []) (bs1 := [[(a0.1, .inr (11, [.ref a0.2.1, .ref a0.2.2.1, .int o5.2.2.2.1, .int o5.2.2.2.2.1, .ref a0.2.2.2.1, .int o5.2.2.2.2.2.2.1, .int o5.2.2.2.2.2.2.2.1, .ref a0.2.2.2.2.1, .int o5.2.2.2.2.2.2.2.2.2.1, .int o5.2.2.2.2.2.2.2.2.2.2.1, .int o5.2.2.2.2.2.2.2.2.2.2.2.1, .int o5.2.2.2.2.2.2.2.2.2.2.2.2.1, .ref a0.2.2.2.2.2, .int o5.2.2.2.2.2.2.2.2.2.2.2.2.2.2]))], [(a0.2.1, .inl (cA, o5.2.1.1, .inl o5.2.1.2))], [(a0.2.2.1, .inl (cA, o5.2.2.1.1, .inl o5.2.2.1.2))], [(a0.2.2.2.1, .inl (cA, o5.2.2.2.2.2.1.1, .inl o5.2.2.2.2.2.1.2))], [(a0.2.2.2.2.1, .inl (cA, o5.2.2.2.2.2.2.2.2.1.1, .inl o5.2.2.2.2.2.2.2.2.1.2))], [(a0.2.2.2.2.2, .inl (cA, o5.2.2.2.2.2.2.2.2.2.2.2.2.2.1.1, .inl o5.2.2.2.2.2.2.2.2.2.2.2.2.2.1.2))]]) (rest := [.ref a0.2.1, .int (o5.2.1.2 o6.toNatClampNeg)]) (st1 := [.int o9, .ref a0.2.1, .int (o5.2.1.2 o6.toNatClampNeg)]) ⟨hx, hb, hml, hown, hts⟩ hz hw hA (mX11_eventAt l D cA cR o8 (1 : Int32) o9 hso9) gX11_hopInterval_X11_eventAt rfl rfl rfl (by decide +kernel) rfl ⟨Nat.le_of_ble_eq_true rfl, Nat.le_of_ble_eq_true rfl⟩ hl.1 rfl (Nat.le_of_ble_eq_true rfl) dX11_hopInterval_48 ⟨Nat.le_of_ble_eq_true rfl, Nat.le_of_ble_eq_true rfl⟩ [] [0, 1, 2, 3, 4, 5] [0, 1, 2, 3, 4, 5] rfl rfl rfl rfl rfl rfl (fun H locs hw => ?_)
    obtain ⟨g10, hsp⟩ := grd_of hsp
    refine k_iald hx hb hz hw 1 rfl g10 dX11_hopInterval_51 ?_
    refine lv_isub hx hb dX11_hopInterval_52 ?_
    refine lv_i2d hx hb dX11_hopInterval_53 ?_
    refine lv_dstore_n (lv' := [(3, .double (FP.i2d ((o5.2.1.2 o6.toNatClampNeg) - (o5.2.1.2 o9.toNatClampNeg)))), (2, .int o5.1), (0, .ref a0.1), (1, .int p1)]) hx hb dX11_hopInterval_54 rfl hl (by decide) rfl (fun ls hl => ?_)
    refine lv_iload_n hx hb dX11_hopInterval_55 rfl (lv_at hl 1 rfl) ?_
    refine lv_iconst (v := 1) hx hb dX11_hopInterval_56 (by decide) ?_
    refine lv_isub hx hb dX11_hopInterval_57 ?_
    refine lv_i2d hx hb dX11_hopInterval_58 ?_
    refine lv_dstore (lv' := [(5, .double (FP.i2d (o5.1 - (1 : Int32)))), (3, .double (FP.i2d ((o5.2.1.2 o6.toNatClampNeg) - (o5.2.1.2 o9.toNatClampNeg)))), (2, .int o5.1), (0, .ref a0.1), (1, .int p1)]) hx hb dX11_hopInterval_59 hl (by decide) rfl (fun ls hl => ?_)
    refine lv_iload_n hx hb dX11_hopInterval_61 rfl (lv_at hl 2 rfl) ?_
    refine lv_iconst (v := 1) hx hb dX11_hopInterval_62 (by decide) ?_
    refine lv_icmp_ne (tgt := 70) hx hb dX11_hopInterval_63 (by decide) (fun c11 => ?_) (fun c11 => ?_)
    · have hsp := iff_ c11 hsp
      refine lv_dload_n hx hb dX11_hopInterval_70 rfl (lv_at hl 1 rfl) ?_
      refine lv_dload hx hb dX11_hopInterval_71 (lv_at hl 0 rfl) ?_
      obtain ⟨g12, hsp⟩ := grd_of hsp
      refine lv_ddiv hx hb dX11_hopInterval_73 g12 ?_
      have hsp := Option.some.inj hsp
      subst hsp
      have hw : ww A s.heap D [w11 cA a0 o5.2] H locs := hw
      subst hQ
      exact k_dret hx hb hr hlk hw dX11_hopInterval_74
    · have hsp := ift c11 hsp
      refine lv_dconst0 hx hb dX11_hopInterval_66 ?_
      refine lv_goto (tgt := 74) hx hb dX11_hopInterval_67 (by decide) ?_
      have hsp := Option.some.inj hsp
      subst hsp
      have hw : ww A s.heap D [w11 cA a0 o5.2] H locs := hw
      subst hQ
      exact k_dret hx hb hr hlk hw dX11_hopInterval_74
  · have hsp := ift c3 hsp
    refine lv_dconst0 hx hb dX11_hopInterval_13 ?_
    have hsp := Option.some.inj hsp
    subst hsp
    have hw : ww A s.heap D [w11 cA a0 o2.2] H locs := hw
    subst hQ
    exact k_dret hx hb hr hlk hw dX11_hopInterval_14
noncomputable def qX11_undo_34 (o3 : Int32 × V11) : Nat → Int32 → (Nat → Int32) → Option (Int32 × (Nat → Int32))
  | 0, _, _ => none
  | n34 + 1, z34_0, z34_1 => (if (804 : Int32) ≤ z34_0 then (some (z34_0, z34_1)) else (grd (vp_in (((804 : Int32) * (o3.2.2.2.1 - (1 : Int32))) + z34_0) o3.2.2.1.1) (grd (vp_in z34_0 o3.2.1.1) (lt_ (upd z34_1 z34_0.toNatClampNeg (o3.2.2.1.2 (((804 : Int32) * (o3.2.2.2.1 - (1 : Int32))) + z34_0).toNatClampNeg)) (fun f17 => (qX11_undo_34 o3 n34 (z34_0 + 1) f17))))))
noncomputable def sX11_undo (N : Nat) (v0 : V11) : Option (Int32 × V11) := (((if v0.2.2.1 ≤ 0 then (some (0 : Int32)) else (some (1 : Int32))) : Option (Int32)).bind (fun j2 => ((sX11_goes v0 j2 (1 : Int32)).bind (fun o3 => (if o3.1 = 0 then (some ((0 : Int32), o3.2)) else ((qX11_undo_34 o3 N (0 : Int32) o3.2.1.2).bind (fun o13 => (some ((o3.2.2.2.1 - (1 : Int32)), ((o3.2.1.1, o13.2), o3.2.2.1, (o3.2.2.2.1 - (1 : Int32)), o3.2.2.2.2.1, o3.2.2.2.2.2.1, o3.2.2.2.2.2.2.1, o3.2.2.2.2.2.2.2.1, o3.2.2.2.2.2.2.2.2.1, o3.2.2.2.2.2.2.2.2.2.1, o3.2.2.2.2.2.2.2.2.2.2.1, o3.2.2.2.2.2.2.2.2.2.2.2.1, o3.2.2.2.2.2.2.2.2.2.2.2.2.1, o3.2.2.2.2.2.2.2.2.2.2.2.2.2.1, o3.2.2.2.2.2.2.2.2.2.2.2.2.2.2))))))))))
abbrev rX11_undo : Room := { frames := 1, cells := 0, slots := 0, locals := 22 }
set_option maxHeartbeats 4000000 in
set_option maxRecDepth 100000 in
theorem mX11_undo (l : Launch) (D : va_G) (cA cR : ClassId) (N : Nat) (a0 : A11) (v0 : V11) (o : Int32 × V11) (hsp : sX11_undo N v0 = some o) : MI l yX11_undo wsX11_undo rX11_undo D cA cR [.ref a0.1] [w11 cA a0 v0] (some (.int o.1)) [w11 cA a0 o.2] 0 0 := by
  have hsp : (((if v0.2.2.1 ≤ 0 then (some (0 : Int32)) else (some (1 : Int32))) : Option (Int32)).bind (fun j2 => ((sX11_goes v0 j2 (1 : Int32)).bind (fun o3 => (if o3.1 = 0 then (some ((0 : Int32), o3.2)) else ((qX11_undo_34 o3 N (0 : Int32) o3.2.1.2).bind (fun o13 => (some ((o3.2.2.2.1 - (1 : Int32)), ((o3.2.1.1, o13.2), o3.2.2.1, (o3.2.2.2.1 - (1 : Int32)), o3.2.2.2.2.1, o3.2.2.2.2.2.1, o3.2.2.2.2.2.2.1, o3.2.2.2.2.2.2.2.1, o3.2.2.2.2.2.2.2.2.1, o3.2.2.2.2.2.2.2.2.2.1, o3.2.2.2.2.2.2.2.2.2.2.1, o3.2.2.2.2.2.2.2.2.2.2.2.1, o3.2.2.2.2.2.2.2.2.2.2.2.2.1, o3.2.2.2.2.2.2.2.2.2.2.2.2.2.1, o3.2.2.2.2.2.2.2.2.2.2.2.2.2.2)))))))))) = some o := hsp
  refine MI.ofW (cc := cX11_undo) (maxL := 2) (ret := (some .int)) (by decide) rfl (Nat.le_of_ble_eq_true rfl) ?_
  intro p e s m args below meth c A ls Q H locs hx hb hr hlk hml hown hnm hts hz hA hQ hw hl
  have hl : lv_has ls 2 [(0, .ref a0.1)] := hl
  have hw : ww A s.heap D [[(a0.1, .inr (11, [.ref a0.2.1, .ref a0.2.2.1, .int v0.2.2.1, .int v0.2.2.2.1, .ref a0.2.2.2.1, .int v0.2.2.2.2.2.1, .int v0.2.2.2.2.2.2.1, .ref a0.2.2.2.2.1, .int v0.2.2.2.2.2.2.2.2.1, .int v0.2.2.2.2.2.2.2.2.2.1, .int v0.2.2.2.2.2.2.2.2.2.2.1, .int v0.2.2.2.2.2.2.2.2.2.2.2.1, .ref a0.2.2.2.2.2, .int v0.2.2.2.2.2.2.2.2.2.2.2.2.2]))], [(a0.2.1, .inl (cA, v0.1.1, .inl v0.1.2))], [(a0.2.2.1, .inl (cA, v0.2.1.1, .inl v0.2.1.2))], [(a0.2.2.2.1, .inl (cA, v0.2.2.2.2.1.1, .inl v0.2.2.2.2.1.2))], [(a0.2.2.2.2.1, .inl (cA, v0.2.2.2.2.2.2.2.1.1, .inl v0.2.2.2.2.2.2.2.1.2))], [(a0.2.2.2.2.2, .inl (cA, v0.2.2.2.2.2.2.2.2.2.2.2.2.1.1, .inl v0.2.2.2.2.2.2.2.2.2.2.2.2.1.2))]] H locs := hw
  refine lv_aload_n hx hb dX11_undo_0 rfl (lv_at hl 0 rfl) ?_
  refine lv_aload_n hx hb dX11_undo_1 rfl (lv_at hl 0 rfl) ?_
  refine k_get (ci := 11) (v := .int v0.2.2.1) (C := RX11) (T := TX11) (N := 14) hx hb hts hown hz hw (by decide +kernel) 0 rfl rfl 2 (by decide) (hts (.fieldLink RX11 32 "OccupancyMonitorModel" "savedMany" "I") (by decide +kernel)) (fun _ h9 => h9) rfl dX11_undo_2 ?_
  obtain ⟨j2, hsj2, hkj2⟩ := bnd_of hsp
  have Jj2 : ∀ (H : Heap) (locs : List Loc) (ls : Array Slot), ww A s.heap D [[(a0.1, .inr (11, [.ref a0.2.1, .ref a0.2.2.1, .int v0.2.2.1, .int v0.2.2.2.1, .ref a0.2.2.2.1, .int v0.2.2.2.2.2.1, .int v0.2.2.2.2.2.2.1, .ref a0.2.2.2.2.1, .int v0.2.2.2.2.2.2.2.2.1, .int v0.2.2.2.2.2.2.2.2.2.1, .int v0.2.2.2.2.2.2.2.2.2.2.1, .int v0.2.2.2.2.2.2.2.2.2.2.2.1, .ref a0.2.2.2.2.2, .int v0.2.2.2.2.2.2.2.2.2.2.2.2.2]))], [(a0.2.1, .inl (cA, v0.1.1, .inl v0.1.2))], [(a0.2.2.1, .inl (cA, v0.2.1.1, .inl v0.2.1.2))], [(a0.2.2.2.1, .inl (cA, v0.2.2.2.2.1.1, .inl v0.2.2.2.2.1.2))], [(a0.2.2.2.2.1, .inl (cA, v0.2.2.2.2.2.2.2.1.1, .inl v0.2.2.2.2.2.2.2.1.2))], [(a0.2.2.2.2.2, .inl (cA, v0.2.2.2.2.2.2.2.2.2.2.2.2.1.1, .inl v0.2.2.2.2.2.2.2.2.2.2.2.2.1.2))]] H locs → lv_has ls 2 [(0, .ref a0.1)] → W p l e rX11_undo s m args below meth c H locs 0 0 Q (F0 m 13 ls [.int j2, .ref a0.1]) := by
    intro H locs ls hw hl
    have hsp := hkj2
    refine lv_iconst (v := 1) hx hb dX11_undo_13 (by decide) ?_
    have hw : ww A s.heap D [w11 cA a0 v0] H locs := hw
    obtain ⟨o3, hso3, hsp⟩ := bnd_of hsp
    refine k_callV (ci := 11) (C := RX11) (T := TX11) (N := 14) (nA := 2) (As := [.int j2, .int (1 : Int32)]) (cs := [w11 cA a0 v0]) (rs := []) (cs1 := [w11 cA a0 o3.2]) (bs1 := [w11 cA a0 o3.2]) (rest := []) (st1 := [.int o3.1]) ⟨hx, hb, hml, hown, hts⟩ hz hw hA (mX11_goes l D cA cR a0 v0 j2 (1 : Int32) o3 hso3) gX11_undo_X11_goes rfl rfl rfl (by decide +kernel) rfl ⟨Nat.le_of_ble_eq_true rfl, Nat.le_of_ble_eq_true rfl⟩ rfl rfl hl.1 rfl (Nat.le_of_ble_eq_true rfl) dX11_undo_14 ⟨Nat.le_of_ble_eq_true rfl, Nat.le_of_ble_eq_true rfl⟩ [0] [] [0] rfl rfl rfl rfl rfl rfl (fun H locs hw => ?_)
    have hw : ww A s.heap D [[(a0.1, .inr (11, [.ref a0.2.1, .ref a0.2.2.1, .int o3.2.2.2.1, .int o3.2.2.2.2.1, .ref a0.2.2.2.1, .int o3.2.2.2.2.2.2.1, .int o3.2.2.2.2.2.2.2.1, .ref a0.2.2.2.2.1, .int o3.2.2.2.2.2.2.2.2.2.1, .int o3.2.2.2.2.2.2.2.2.2.2.1, .int o3.2.2.2.2.2.2.2.2.2.2.2.1, .int o3.2.2.2.2.2.2.2.2.2.2.2.2.1, .ref a0.2.2.2.2.2, .int o3.2.2.2.2.2.2.2.2.2.2.2.2.2.2]))], [(a0.2.1, .inl (cA, o3.2.1.1, .inl o3.2.1.2))], [(a0.2.2.1, .inl (cA, o3.2.2.1.1, .inl o3.2.2.1.2))], [(a0.2.2.2.1, .inl (cA, o3.2.2.2.2.2.1.1, .inl o3.2.2.2.2.2.1.2))], [(a0.2.2.2.2.1, .inl (cA, o3.2.2.2.2.2.2.2.2.1.1, .inl o3.2.2.2.2.2.2.2.2.1.2))], [(a0.2.2.2.2.2, .inl (cA, o3.2.2.2.2.2.2.2.2.2.2.2.2.2.1.1, .inl o3.2.2.2.2.2.2.2.2.2.2.2.2.2.1.2))]] H locs := hw
    refine lv_if_ne (tgt := 22) hx hb dX11_undo_17 (by decide) (fun c4 => ?_) (fun c4 => ?_)
    · have hsp := iff_ c4 hsp
      refine lv_aload_n hx hb dX11_undo_22 rfl (lv_at hl 0 rfl) ?_
      refine lv_dup hx hb dX11_undo_23 rfl ?_
      refine k_get (ci := 11) (v := .int o3.2.2.2.1) (C := RX11) (T := TX11) (N := 14) hx hb hts hown hz hw (by decide +kernel) 0 rfl rfl 2 (by decide) (hts (.fieldLink RX11 32 "OccupancyMonitorModel" "savedMany" "I") (by decide +kernel)) (fun _ h9 => h9) rfl dX11_undo_24 ?_
      refine lv_iconst (v := 1) hx hb dX11_undo_27 (by decide) ?_
      refine lv_isub hx hb dX11_undo_28 ?_
      refine k_put (ci := 11) (v := .int (o3.2.2.2.1 - (1 : Int32))) (ty := .int) (C := RX11) (T := TX11) (N := 14) (bs1 := [[(a0.1, .inr (11, [.ref a0.2.1, .ref a0.2.2.1, .int (o3.2.2.2.1 - (1 : Int32)), .int o3.2.2.2.2.1, .ref a0.2.2.2.1, .int o3.2.2.2.2.2.2.1, .int o3.2.2.2.2.2.2.2.1, .ref a0.2.2.2.2.1, .int o3.2.2.2.2.2.2.2.2.2.1, .int o3.2.2.2.2.2.2.2.2.2.2.1, .int o3.2.2.2.2.2.2.2.2.2.2.2.1, .int o3.2.2.2.2.2.2.2.2.2.2.2.2.1, .ref a0.2.2.2.2.2, .int o3.2.2.2.2.2.2.2.2.2.2.2.2.2.2]))], [(a0.2.1, .inl (cA, o3.2.1.1, .inl o3.2.1.2))], [(a0.2.2.1, .inl (cA, o3.2.2.1.1, .inl o3.2.2.1.2))], [(a0.2.2.2.1, .inl (cA, o3.2.2.2.2.2.1.1, .inl o3.2.2.2.2.2.1.2))], [(a0.2.2.2.2.1, .inl (cA, o3.2.2.2.2.2.2.2.2.1.1, .inl o3.2.2.2.2.2.2.2.2.1.2))], [(a0.2.2.2.2.2, .inl (cA, o3.2.2.2.2.2.2.2.2.2.2.2.2.2.1.1, .inl o3.2.2.2.2.2.2.2.2.2.2.2.2.2.1.2))]]) hx hb hts hown hz hw (by decide +kernel) tyX11 tyX11_ok nmX11 0 rfl rfl 2 (by decide) (hts (.fieldLink RX11 32 "OccupancyMonitorModel" "savedMany" "I") (by decide +kernel)) (fun _ h9 => h9) rfl (by decide +kernel) rfl rfl (Nat.le_of_ble_eq_true rfl) dX11_undo_29 rfl (fun H locs hw => ?_)
      refine lv_iconst (v := 0) hx hb dX11_undo_32 (by decide) ?_
      refine lv_istore_n (lv' := [(1, .int (0 : Int32)), (0, .ref a0.1)]) hx hb dX11_undo_33 rfl hl (by decide) rfl (fun ls hl => ?_)
      have L34 : ∀ (n34 : Nat) (z34_0 : Int32) (z34_1 : (Nat → Int32)) (o13 : Int32 × (Nat → Int32)), qX11_undo_34 o3 n34 z34_0 z34_1 = some o13 → ∀ (H : Heap) (locs : List Loc) (ls : Array Slot), ww A s.heap D [[(a0.1, .inr (11, [.ref a0.2.1, .ref a0.2.2.1, .int (o3.2.2.2.1 - (1 : Int32)), .int o3.2.2.2.2.1, .ref a0.2.2.2.1, .int o3.2.2.2.2.2.2.1, .int o3.2.2.2.2.2.2.2.1, .ref a0.2.2.2.2.1, .int o3.2.2.2.2.2.2.2.2.2.1, .int o3.2.2.2.2.2.2.2.2.2.2.1, .int o3.2.2.2.2.2.2.2.2.2.2.2.1, .int o3.2.2.2.2.2.2.2.2.2.2.2.2.1, .ref a0.2.2.2.2.2, .int o3.2.2.2.2.2.2.2.2.2.2.2.2.2.2]))], [(a0.2.1, .inl (cA, o3.2.1.1, .inl z34_1))], [(a0.2.2.1, .inl (cA, o3.2.2.1.1, .inl o3.2.2.1.2))], [(a0.2.2.2.1, .inl (cA, o3.2.2.2.2.2.1.1, .inl o3.2.2.2.2.2.1.2))], [(a0.2.2.2.2.1, .inl (cA, o3.2.2.2.2.2.2.2.2.1.1, .inl o3.2.2.2.2.2.2.2.2.1.2))], [(a0.2.2.2.2.2, .inl (cA, o3.2.2.2.2.2.2.2.2.2.2.2.2.2.1.1, .inl o3.2.2.2.2.2.2.2.2.2.2.2.2.2.1.2))]] H locs → lv_has ls 2 [(0, .ref a0.1), (1, .int z34_0)] → (∀ (y68 : Int32 × (Nat → Int32)), o13 = y68 → ∀ (H : Heap) (locs : List Loc) (ls : Array Slot), ww A s.heap D [[(a0.1, .inr (11, [.ref a0.2.1, .ref a0.2.2.1, .int (o3.2.2.2.1 - (1 : Int32)), .int o3.2.2.2.2.1, .ref a0.2.2.2.1, .int o3.2.2.2.2.2.2.1, .int o3.2.2.2.2.2.2.2.1, .ref a0.2.2.2.2.1, .int o3.2.2.2.2.2.2.2.2.2.1, .int o3.2.2.2.2.2.2.2.2.2.2.1, .int o3.2.2.2.2.2.2.2.2.2.2.2.1, .int o3.2.2.2.2.2.2.2.2.2.2.2.2.1, .ref a0.2.2.2.2.2, .int o3.2.2.2.2.2.2.2.2.2.2.2.2.2.2]))], [(a0.2.1, .inl (cA, o3.2.1.1, .inl y68.2))], [(a0.2.2.1, .inl (cA, o3.2.2.1.1, .inl o3.2.2.1.2))], [(a0.2.2.2.1, .inl (cA, o3.2.2.2.2.2.1.1, .inl o3.2.2.2.2.2.1.2))], [(a0.2.2.2.2.1, .inl (cA, o3.2.2.2.2.2.2.2.2.1.1, .inl o3.2.2.2.2.2.2.2.2.1.2))], [(a0.2.2.2.2.2, .inl (cA, o3.2.2.2.2.2.2.2.2.2.2.2.2.2.1.1, .inl o3.2.2.2.2.2.2.2.2.2.2.2.2.2.1.2))]] H locs → lv_has ls 2 [(0, .ref a0.1), (1, .int y68.1)] → W p l e rX11_undo s m args below meth c H locs 0 0 Q (F0 m 68 ls [])) → W p l e rX11_undo s m args below meth c H locs 0 0 Q (F0 m 34 ls []) := by
        intro n34
        induction n34 with
        | zero => intro z34_0 z34_1 o13 hsp; cases hsp
        | succ n34 ih34 =>
          intro z34_0 z34_1 o13 hsp H locs ls hw hl kx34_68
          have hsp : (if (804 : Int32) ≤ z34_0 then (some (z34_0, z34_1)) else (grd (vp_in (((804 : Int32) * (o3.2.2.2.1 - (1 : Int32))) + z34_0) o3.2.2.1.1) (grd (vp_in z34_0 o3.2.1.1) (lt_ (upd z34_1 z34_0.toNatClampNeg (o3.2.2.1.2 (((804 : Int32) * (o3.2.2.2.1 - (1 : Int32))) + z34_0).toNatClampNeg)) (fun f17 => (qX11_undo_34 o3 n34 (z34_0 + 1) f17)))))) = some o13 := hsp
          refine lv_iload_n hx hb dX11_undo_34 rfl (lv_at hl 1 rfl) ?_
          refine lv_sipush (v := 804) hx hb dX11_undo_35 (by decide) ?_
          refine lv_icmp_ge (tgt := 68) hx hb dX11_undo_38 (by decide) (fun c14 => ?_) (fun c14 => ?_)
          · have hsp := ift c14 hsp
            have hsp := Option.some.inj hsp
            subst hsp
            exact kx34_68 _ rfl _ _ _ hw (lv_sub hl [0, 1] rfl)
          · have hsp := iff_ c14 hsp
            refine lv_aload_n hx hb dX11_undo_41 rfl (lv_at hl 0 rfl) ?_
            refine k_get (ci := 11) (v := .ref a0.2.1) (C := RX11) (T := TX11) (N := 14) hx hb hts hown hz hw (by decide +kernel) 0 rfl rfl 0 (by decide) (hts (.fieldLink RX11 7 "OccupancyMonitorModel" "all" "[I") (by decide +kernel)) (fun _ h9 => h9) rfl dX11_undo_42 ?_
            refine lv_iload_n hx hb dX11_undo_45 rfl (lv_at hl 1 rfl) ?_
            refine lv_aload_n hx hb dX11_undo_46 rfl (lv_at hl 0 rfl) ?_
            refine k_get (ci := 11) (v := .ref a0.2.2.1) (C := RX11) (T := TX11) (N := 14) hx hb hts hown hz hw (by decide +kernel) 0 rfl rfl 1 (by decide) (hts (.fieldLink RX11 13 "OccupancyMonitorModel" "saved" "[I") (by decide +kernel)) (fun _ h9 => h9) rfl dX11_undo_47 ?_
            refine lv_sipush (v := 804) hx hb dX11_undo_50 (by decide) ?_
            refine lv_aload_n hx hb dX11_undo_53 rfl (lv_at hl 0 rfl) ?_
            refine k_get (ci := 11) (v := .int (o3.2.2.2.1 - (1 : Int32))) (C := RX11) (T := TX11) (N := 14) hx hb hts hown hz hw (by decide +kernel) 0 rfl rfl 2 (by decide) (hts (.fieldLink RX11 32 "OccupancyMonitorModel" "savedMany" "I") (by decide +kernel)) (fun _ h9 => h9) rfl dX11_undo_54 ?_
            refine lv_imul hx hb dX11_undo_57 ?_
            refine lv_iload_n hx hb dX11_undo_58 rfl (lv_at hl 1 rfl) ?_
            refine lv_iadd hx hb dX11_undo_59 ?_
            obtain ⟨g15, hsp⟩ := grd_of hsp
            refine k_iald hx hb hz hw 2 rfl g15 dX11_undo_60 ?_
            obtain ⟨g16, hsp⟩ := grd_of hsp
            obtain ⟨f17, ef17⟩ : ∃ u : Nat → Int32, u = (upd z34_1 z34_0.toNatClampNeg (o3.2.2.1.2 (((804 : Int32) * (o3.2.2.2.1 - (1 : Int32))) + z34_0).toNatClampNeg)) := ⟨_, rfl⟩
            have hsp := lt_of hsp ef17
            refine k_iast (bs1 := [[(a0.1, .inr (11, [.ref a0.2.1, .ref a0.2.2.1, .int (o3.2.2.2.1 - (1 : Int32)), .int o3.2.2.2.2.1, .ref a0.2.2.2.1, .int o3.2.2.2.2.2.2.1, .int o3.2.2.2.2.2.2.2.1, .ref a0.2.2.2.2.1, .int o3.2.2.2.2.2.2.2.2.2.1, .int o3.2.2.2.2.2.2.2.2.2.2.1, .int o3.2.2.2.2.2.2.2.2.2.2.2.1, .int o3.2.2.2.2.2.2.2.2.2.2.2.2.1, .ref a0.2.2.2.2.2, .int o3.2.2.2.2.2.2.2.2.2.2.2.2.2.2]))], [(a0.2.1, .inl (cA, o3.2.1.1, .inl f17))], [(a0.2.2.1, .inl (cA, o3.2.2.1.1, .inl o3.2.2.1.2))], [(a0.2.2.2.1, .inl (cA, o3.2.2.2.2.2.1.1, .inl o3.2.2.2.2.2.1.2))], [(a0.2.2.2.2.1, .inl (cA, o3.2.2.2.2.2.2.2.2.1.1, .inl o3.2.2.2.2.2.2.2.2.1.2))], [(a0.2.2.2.2.2, .inl (cA, o3.2.2.2.2.2.2.2.2.2.2.2.2.2.1.1, .inl o3.2.2.2.2.2.2.2.2.2.2.2.2.2.1.2))]]) hx hb hz hw 1 rfl g16 dX11_undo_61 (by rw [ef17]; rfl) (fun H locs hw => ?_)
            refine lv_iinc (v := (z34_0 + 1)) (lv' := [(1, .int (z34_0 + 1)), (0, .ref a0.1)]) hx hb dX11_undo_62 hl (k := 1) rfl rfl (by decide) rfl (fun ls hl => ?_)
            refine lv_goto (tgt := 34) hx hb dX11_undo_65 (by decide) ?_
            exact ih34 (z34_0 + 1) f17 _ hsp _ _ _ hw (lv_sub hl [1, 0] rfl) kx34_68
      obtain ⟨o13, hso13, hsp⟩ := bnd_of hsp
      refine L34 N (0 : Int32) o3.2.1.2 _ hso13 _ _ _ hw (lv_sub hl [1, 0] rfl) (fun y68 hy68 H locs ls hw hl => ?_)
      cases hy68
      refine lv_aload_n hx hb dX11_undo_68 rfl (lv_at hl 0 rfl) ?_
      refine k_get (ci := 11) (v := .int (o3.2.2.2.1 - (1 : Int32))) (C := RX11) (T := TX11) (N := 14) hx hb hts hown hz hw (by decide +kernel) 0 rfl rfl 2 (by decide) (hts (.fieldLink RX11 32 "OccupancyMonitorModel" "savedMany" "I") (by decide +kernel)) (fun _ h9 => h9) rfl dX11_undo_69 ?_
      have hsp := Option.some.inj hsp
      subst hsp
      have hw : ww A s.heap D [w11 cA a0 ((o3.2.1.1, o13.2), o3.2.2.1, (o3.2.2.2.1 - (1 : Int32)), o3.2.2.2.2.1, o3.2.2.2.2.2.1, o3.2.2.2.2.2.2.1, o3.2.2.2.2.2.2.2.1, o3.2.2.2.2.2.2.2.2.1, o3.2.2.2.2.2.2.2.2.2.1, o3.2.2.2.2.2.2.2.2.2.2.1, o3.2.2.2.2.2.2.2.2.2.2.2.1, o3.2.2.2.2.2.2.2.2.2.2.2.2.1, o3.2.2.2.2.2.2.2.2.2.2.2.2.2.1, o3.2.2.2.2.2.2.2.2.2.2.2.2.2.2)] H locs := hw
      subst hQ
      exact k_iret hx hb hr hlk hw dX11_undo_72
    · have hsp := ift c4 hsp
      refine lv_iconst (v := 0) hx hb dX11_undo_20 (by decide) ?_
      have hsp := Option.some.inj hsp
      subst hsp
      have hw : ww A s.heap D [w11 cA a0 o3.2] H locs := hw
      subst hQ
      exact k_iret hx hb hr hlk hw dX11_undo_21
  have hsp := hsj2
  refine lv_if_le (tgt := 12) hx hb dX11_undo_5 (by decide) (fun c18 => ?_) (fun c18 => ?_)
  · have hsp := ift c18 hsp
    refine lv_iconst (v := 0) hx hb dX11_undo_12 (by decide) ?_
    have hsp := Option.some.inj hsp
    subst hsp
    exact Jj2 _ _ _ hw (lv_sub hl [0] rfl)
  · have hsp := iff_ c18 hsp
    refine lv_iconst (v := 1) hx hb dX11_undo_8 (by decide) ?_
    refine lv_goto (tgt := 13) hx hb dX11_undo_9 (by decide) ?_
    have hsp := Option.some.inj hsp
    subst hsp
    exact Jj2 _ _ _ hw (lv_sub hl [0] rfl)
noncomputable def qX11_sums_6 (v0 : V11) (p2 : Int32) (p3 : Int32) : Nat → Int64 → Int32 → Option (Int64 × Int32)
  | 0, _, _ => none
  | n6 + 1, z6_0, z6_1 => (if p3 ≤ z6_1 then (some (z6_0, z6_1)) else (grd (vp_in (p2 + z6_1) v0.1.1) (qX11_sums_6 v0 p2 p3 n6 (((31 : Int64) * z6_0) + (v0.1.2 (p2 + z6_1).toNatClampNeg).toInt64) (z6_1 + 1))))
noncomputable def sX11_sums (N : Nat) (v0 : V11) (p1 : Int64) (p2 : Int32) (p3 : Int32) : Option (Int64) := ((qX11_sums_6 v0 p2 p3 N p1 (0 : Int32)).bind (fun o6 => (some o6.1)))
abbrev rX11_sums : Room := { frames := 0, cells := 0, slots := 0, locals := 0 }
set_option maxHeartbeats 4000000 in
set_option maxRecDepth 100000 in
theorem mX11_sums (l : Launch) (D : va_G) (cA cR : ClassId) (N : Nat) (a0 : A11) (v0 : V11) (p1 : Int64) (p2 : Int32) (p3 : Int32) (o : Int64) (hsp : sX11_sums N v0 p1 p2 p3 = some o) : MI l yX11_sums wsX11_sums rX11_sums D cA cR [.ref a0.1, .long p1, .int p2, .int p3] [w11 cA a0 v0] (some (.long o)) [w11 cA a0 v0] 0 0 := by
  have hsp : ((qX11_sums_6 v0 p2 p3 N p1 (0 : Int32)).bind (fun o6 => (some o6.1))) = some o := hsp
  refine MI.ofW (cc := cX11_sums) (maxL := 8) (ret := (some .long)) (by decide) rfl (Nat.le_of_ble_eq_true rfl) ?_
  intro p e s m args below meth c A ls Q H locs hx hb hr hlk hml hown hnm hts hz hA hQ hw hl
  have hl : lv_has ls 8 [(0, .ref a0.1), (1, .long p1), (3, .int p2), (4, .int p3)] := hl
  have hw : ww A s.heap D [[(a0.1, .inr (11, [.ref a0.2.1, .ref a0.2.2.1, .int v0.2.2.1, .int v0.2.2.2.1, .ref a0.2.2.2.1, .int v0.2.2.2.2.2.1, .int v0.2.2.2.2.2.2.1, .ref a0.2.2.2.2.1, .int v0.2.2.2.2.2.2.2.2.1, .int v0.2.2.2.2.2.2.2.2.2.1, .int v0.2.2.2.2.2.2.2.2.2.2.1, .int v0.2.2.2.2.2.2.2.2.2.2.2.1, .ref a0.2.2.2.2.2, .int v0.2.2.2.2.2.2.2.2.2.2.2.2.2]))], [(a0.2.1, .inl (cA, v0.1.1, .inl v0.1.2))], [(a0.2.2.1, .inl (cA, v0.2.1.1, .inl v0.2.1.2))], [(a0.2.2.2.1, .inl (cA, v0.2.2.2.2.1.1, .inl v0.2.2.2.2.1.2))], [(a0.2.2.2.2.1, .inl (cA, v0.2.2.2.2.2.2.2.1.1, .inl v0.2.2.2.2.2.2.2.1.2))], [(a0.2.2.2.2.2, .inl (cA, v0.2.2.2.2.2.2.2.2.2.2.2.2.1.1, .inl v0.2.2.2.2.2.2.2.2.2.2.2.2.1.2))]] H locs := hw
  refine lv_lload_n hx hb dX11_sums_0 rfl (lv_at hl 1 rfl) ?_
  refine lv_lstore (lv' := [(5, .long p1), (0, .ref a0.1), (1, .long p1), (3, .int p2), (4, .int p3)]) hx hb dX11_sums_1 hl (by decide) rfl (fun ls hl => ?_)
  refine lv_iconst (v := 0) hx hb dX11_sums_3 (by decide) ?_
  refine lv_istore (lv' := [(7, .int (0 : Int32)), (5, .long p1), (0, .ref a0.1), (1, .long p1), (3, .int p2), (4, .int p3)]) hx hb dX11_sums_4 hl (by decide) rfl (fun ls hl => ?_)
  have L6 : ∀ (n6 : Nat) (z6_0 : Int64) (z6_1 : Int32) (o6 : Int64 × Int32), qX11_sums_6 v0 p2 p3 n6 z6_0 z6_1 = some o6 → ∀ (H : Heap) (locs : List Loc) (ls : Array Slot), ww A s.heap D [[(a0.1, .inr (11, [.ref a0.2.1, .ref a0.2.2.1, .int v0.2.2.1, .int v0.2.2.2.1, .ref a0.2.2.2.1, .int v0.2.2.2.2.2.1, .int v0.2.2.2.2.2.2.1, .ref a0.2.2.2.2.1, .int v0.2.2.2.2.2.2.2.2.1, .int v0.2.2.2.2.2.2.2.2.2.1, .int v0.2.2.2.2.2.2.2.2.2.2.1, .int v0.2.2.2.2.2.2.2.2.2.2.2.1, .ref a0.2.2.2.2.2, .int v0.2.2.2.2.2.2.2.2.2.2.2.2.2]))], [(a0.2.1, .inl (cA, v0.1.1, .inl v0.1.2))], [(a0.2.2.1, .inl (cA, v0.2.1.1, .inl v0.2.1.2))], [(a0.2.2.2.1, .inl (cA, v0.2.2.2.2.1.1, .inl v0.2.2.2.2.1.2))], [(a0.2.2.2.2.1, .inl (cA, v0.2.2.2.2.2.2.2.1.1, .inl v0.2.2.2.2.2.2.2.1.2))], [(a0.2.2.2.2.2, .inl (cA, v0.2.2.2.2.2.2.2.2.2.2.2.2.1.1, .inl v0.2.2.2.2.2.2.2.2.2.2.2.2.1.2))]] H locs → lv_has ls 8 [(0, .ref a0.1), (1, .long p1), (3, .int p2), (4, .int p3), (5, .long z6_0), (7, .int z6_1)] → (∀ (y38 : Int64 × Int32), o6 = y38 → ∀ (H : Heap) (locs : List Loc) (ls : Array Slot), ww A s.heap D [[(a0.1, .inr (11, [.ref a0.2.1, .ref a0.2.2.1, .int v0.2.2.1, .int v0.2.2.2.1, .ref a0.2.2.2.1, .int v0.2.2.2.2.2.1, .int v0.2.2.2.2.2.2.1, .ref a0.2.2.2.2.1, .int v0.2.2.2.2.2.2.2.2.1, .int v0.2.2.2.2.2.2.2.2.2.1, .int v0.2.2.2.2.2.2.2.2.2.2.1, .int v0.2.2.2.2.2.2.2.2.2.2.2.1, .ref a0.2.2.2.2.2, .int v0.2.2.2.2.2.2.2.2.2.2.2.2.2]))], [(a0.2.1, .inl (cA, v0.1.1, .inl v0.1.2))], [(a0.2.2.1, .inl (cA, v0.2.1.1, .inl v0.2.1.2))], [(a0.2.2.2.1, .inl (cA, v0.2.2.2.2.1.1, .inl v0.2.2.2.2.1.2))], [(a0.2.2.2.2.1, .inl (cA, v0.2.2.2.2.2.2.2.1.1, .inl v0.2.2.2.2.2.2.2.1.2))], [(a0.2.2.2.2.2, .inl (cA, v0.2.2.2.2.2.2.2.2.2.2.2.2.1.1, .inl v0.2.2.2.2.2.2.2.2.2.2.2.2.1.2))]] H locs → lv_has ls 8 [(0, .ref a0.1), (1, .long p1), (3, .int p2), (4, .int p3), (5, .long y38.1), (7, .int y38.2)] → W p l e rX11_sums s m args below meth c H locs 0 0 Q (F0 m 38 ls [])) → W p l e rX11_sums s m args below meth c H locs 0 0 Q (F0 m 6 ls []) := by
    intro n6
    induction n6 with
    | zero => intro z6_0 z6_1 o6 hsp; cases hsp
    | succ n6 ih6 =>
      intro z6_0 z6_1 o6 hsp H locs ls hw hl kx6_38
      have hsp : (if p3 ≤ z6_1 then (some (z6_0, z6_1)) else (grd (vp_in (p2 + z6_1) v0.1.1) (qX11_sums_6 v0 p2 p3 n6 (((31 : Int64) * z6_0) + (v0.1.2 (p2 + z6_1).toNatClampNeg).toInt64) (z6_1 + 1)))) = some o6 := hsp
      refine lv_iload hx hb dX11_sums_6 (lv_at hl 5 rfl) ?_
      refine lv_iload hx hb dX11_sums_8 (lv_at hl 3 rfl) ?_
      refine lv_icmp_ge (tgt := 38) hx hb dX11_sums_10 (by decide) (fun c7 => ?_) (fun c7 => ?_)
      · have hsp := ift c7 hsp
        have hsp := Option.some.inj hsp
        subst hsp
        exact kx6_38 _ rfl _ _ _ hw (lv_sub hl [0, 1, 2, 3, 4, 5] rfl)
      · have hsp := iff_ c7 hsp
        refine lv_ldc2 hx hb hown (hts (.constantLong RX11 35 31) (by decide +kernel)) dX11_sums_13 ?_
        refine lv_lload hx hb dX11_sums_16 (lv_at hl 4 rfl) ?_
        refine lv_lmul hx hb dX11_sums_18 ?_
        refine lv_aload_n hx hb dX11_sums_19 rfl (lv_at hl 0 rfl) ?_
        refine k_get (ci := 11) (v := .ref a0.2.1) (C := RX11) (T := TX11) (N := 14) hx hb hts hown hz hw (by decide +kernel) 0 rfl rfl 0 (by decide) (hts (.fieldLink RX11 7 "OccupancyMonitorModel" "all" "[I") (by decide +kernel)) (fun _ h9 => h9) rfl dX11_sums_20 ?_
        refine lv_iload_n hx hb dX11_sums_23 rfl (lv_at hl 2 rfl) ?_
        refine lv_iload hx hb dX11_sums_24 (lv_at hl 5 rfl) ?_
        refine lv_iadd hx hb dX11_sums_26 ?_
        obtain ⟨g8, hsp⟩ := grd_of hsp
        refine k_iald hx hb hz hw 1 rfl g8 dX11_sums_27 ?_
        refine lv_i2l hx hb dX11_sums_28 rfl ?_
        refine lv_ladd hx hb dX11_sums_29 ?_
        refine lv_lstore (lv' := [(5, .long (((31 : Int64) * z6_0) + (v0.1.2 (p2 + z6_1).toNatClampNeg).toInt64)), (0, .ref a0.1), (1, .long p1), (3, .int p2), (4, .int p3), (7, .int z6_1)]) hx hb dX11_sums_30 hl (by decide) rfl (fun ls hl => ?_)
        refine lv_iinc (v := (z6_1 + 1)) (lv' := [(7, .int (z6_1 + 1)), (5, .long (((31 : Int64) * z6_0) + (v0.1.2 (p2 + z6_1).toNatClampNeg).toInt64)), (0, .ref a0.1), (1, .long p1), (3, .int p2), (4, .int p3)]) hx hb dX11_sums_32 hl (k := 5) rfl rfl (by decide) rfl (fun ls hl => ?_)
        refine lv_goto (tgt := 6) hx hb dX11_sums_35 (by decide) ?_
        exact ih6 (((31 : Int64) * z6_0) + (v0.1.2 (p2 + z6_1).toNatClampNeg).toInt64) (z6_1 + 1) _ hsp _ _ _ hw (lv_sub hl [2, 3, 4, 5, 1, 0] rfl) kx6_38
  obtain ⟨o6, hso6, hsp⟩ := bnd_of hsp
  refine L6 N p1 (0 : Int32) _ hso6 _ _ _ hw (lv_sub hl [2, 3, 4, 5, 1, 0] rfl) (fun y38 hy38 H locs ls hw hl => ?_)
  cases hy38
  refine lv_lload hx hb dX11_sums_38 (lv_at hl 4 rfl) ?_
  have hsp := Option.some.inj hsp
  subst hsp
  have hw : ww A s.heap D [w11 cA a0 v0] H locs := hw
  subst hQ
  exact k_lret hx hb hr hlk hw dX11_sums_40
noncomputable def qX11_digest_83 (N : Nat) (v0 : V11) : Nat → Int64 → Int32 → Option (Int64 × Int32)
  | 0, _, _ => none
  | n83 + 1, z83_0, z83_1 => (if (32 : Int32) ≤ z83_1 then (some (z83_0, z83_1)) else (grd (vp_in ((106 : Int32) + z83_1) v0.1.1) ((sX11_sums N (v0.1, v0.2.1, v0.2.2.1, (0 : Int32), v0.2.2.2.2.1, v0.2.2.2.2.2.1, v0.2.2.2.2.2.2.1, v0.2.2.2.2.2.2.2.1, v0.2.2.2.2.2.2.2.2.1, v0.2.2.2.2.2.2.2.2.2.1, v0.2.2.2.2.2.2.2.2.2.2.1, v0.2.2.2.2.2.2.2.2.2.2.2.1, v0.2.2.2.2.2.2.2.2.2.2.2.2.1, v0.2.2.2.2.2.2.2.2.2.2.2.2.2) (((31 : Int64) * z83_0) + (v0.1.2 ((106 : Int32) + z83_1).toNatClampNeg).toInt64) ((138 : Int32) + ((13 : Int32) * z83_1)) (4 : Int32)).bind (fun o19 => ((sX11_averageOf N (v0.1, v0.2.1, v0.2.2.1, (0 : Int32), v0.2.2.2.2.1, v0.2.2.2.2.2.1, v0.2.2.2.2.2.2.1, v0.2.2.2.2.2.2.2.1, v0.2.2.2.2.2.2.2.2.1, v0.2.2.2.2.2.2.2.2.2.1, v0.2.2.2.2.2.2.2.2.2.2.1, v0.2.2.2.2.2.2.2.2.2.2.2.1, v0.2.2.2.2.2.2.2.2.2.2.2.2.1, v0.2.2.2.2.2.2.2.2.2.2.2.2.2) z83_1).bind (fun o20 => (qX11_digest_83 N v0 n83 (((31 : Int64) * o19) + o20.toInt64) (z83_1 + 1))))))))
noncomputable def qX11_digest_173 (N : Nat) (o22 : V11) (z159_1 : Int32) : Nat → Int64 → Int32 → Option (Int64 × Int32)
  | 0, _, _ => none
  | n173 + 1, z173_0, z173_1 => (if (7 : Int32) ≤ z173_1 then (some (z173_0, z173_1)) else ((sX11_eventNow N o22 z159_1 z173_1).bind (fun o51 => (qX11_digest_173 N o22 z159_1 n173 (((31 : Int64) * z173_0) + o51.toInt64) (z173_1 + 1)))))
noncomputable def qX11_digest_159 (N : Nat) (o22 : V11) : Nat → Int64 → Int32 → Option (Int64 × Int32)
  | 0, _, _ => none
  | n159 + 1, z159_0, z159_1 => (grd (vp_in (9 : Int32) o22.1.1) (if (o22.1.2 (9 : Int32).toNatClampNeg) ≤ z159_1 then (some (z159_0, z159_1)) else ((qX11_digest_173 N o22 z159_1 N z159_0 (0 : Int32)).bind (fun o49 => (qX11_digest_159 N o22 n159 o49.1 (z159_1 + 1))))))
noncomputable def sX11_digest (N : Nat) (v0 : V11) : Option (Int64 × V11) := ((sX11_sums N (v0.1, v0.2.1, v0.2.2.1, (0 : Int32), v0.2.2.2.2.1, v0.2.2.2.2.2.1, v0.2.2.2.2.2.2.1, v0.2.2.2.2.2.2.2.1, v0.2.2.2.2.2.2.2.2.1, v0.2.2.2.2.2.2.2.2.2.1, v0.2.2.2.2.2.2.2.2.2.2.1, v0.2.2.2.2.2.2.2.2.2.2.2.1, v0.2.2.2.2.2.2.2.2.2.2.2.2.1, v0.2.2.2.2.2.2.2.2.2.2.2.2.2) ((88381 : Int64) + v0.2.2.2.2.2.1.toInt64) (0 : Int32) (6 : Int32)).bind (fun o1 => (grd (vp_in (5 : Int32) v0.1.1) ((sX11_sums N (v0.1, v0.2.1, v0.2.2.1, (0 : Int32), v0.2.2.2.2.1, v0.2.2.2.2.2.1, v0.2.2.2.2.2.2.1, v0.2.2.2.2.2.2.2.1, v0.2.2.2.2.2.2.2.2.1, v0.2.2.2.2.2.2.2.2.2.1, v0.2.2.2.2.2.2.2.2.2.2.1, v0.2.2.2.2.2.2.2.2.2.2.2.1, v0.2.2.2.2.2.2.2.2.2.2.2.2.1, v0.2.2.2.2.2.2.2.2.2.2.2.2.2) o1 (10 : Int32) ((6 : Int32) * (v0.1.2 (5 : Int32).toNatClampNeg))).bind (fun o3 => (grd (vp_in (6 : Int32) v0.1.1) (grd (vp_in (6 : Int32) v0.1.1) ((sX11_sums N (v0.1, v0.2.1, v0.2.2.1, (0 : Int32), v0.2.2.2.2.1, v0.2.2.2.2.2.1, v0.2.2.2.2.2.2.1, v0.2.2.2.2.2.2.2.1, v0.2.2.2.2.2.2.2.2.1, v0.2.2.2.2.2.2.2.2.2.1, v0.2.2.2.2.2.2.2.2.2.2.1, v0.2.2.2.2.2.2.2.2.2.2.2.1, v0.2.2.2.2.2.2.2.2.2.2.2.2.1, v0.2.2.2.2.2.2.2.2.2.2.2.2.2) (((31 : Int64) * o3) + (v0.1.2 (6 : Int32).toNatClampNeg).toInt64) (70 : Int32) ((3 : Int32) * (v0.1.2 (6 : Int32).toNatClampNeg))).bind (fun o6 => ((sX11_stepNow (v0.1, v0.2.1, v0.2.2.1, (0 : Int32), v0.2.2.2.2.1, v0.2.2.2.2.2.1, v0.2.2.2.2.2.2.1, v0.2.2.2.2.2.2.2.1, v0.2.2.2.2.2.2.2.2.1, v0.2.2.2.2.2.2.2.2.2.1, v0.2.2.2.2.2.2.2.2.2.2.1, v0.2.2.2.2.2.2.2.2.2.2.2.1, v0.2.2.2.2.2.2.2.2.2.2.2.2.1, v0.2.2.2.2.2.2.2.2.2.2.2.2.2)).bind (fun o7 => ((qX11_digest_83 N v0 N (((31 : Int64) * o6) + o7.toInt64) (0 : Int32)).bind (fun o16 => (grd (vp_in (9 : Int32) v0.1.1) ((sX11_laysChains N (v0.1, v0.2.1, v0.2.2.1, (0 : Int32), v0.2.2.2.2.1, v0.2.2.2.2.2.1, v0.2.2.2.2.2.2.1, v0.2.2.2.2.2.2.2.1, v0.2.2.2.2.2.2.2.2.1, v0.2.2.2.2.2.2.2.2.2.1, v0.2.2.2.2.2.2.2.2.2.2.1, v0.2.2.2.2.2.2.2.2.2.2.2.1, v0.2.2.2.2.2.2.2.2.2.2.2.2.1, v0.2.2.2.2.2.2.2.2.2.2.2.2.2)).bind (fun o22 => ((qX11_digest_159 N o22 N (((31 : Int64) * o16.1) + (v0.1.2 (9 : Int32).toNatClampNeg).toInt64) (0 : Int32)).bind (fun o42 => (some ((((31 : Int64) * o42.1) + o22.2.2.1.toInt64), o22))))))))))))))))))))
abbrev rX11_digest : Room := { frames := 2, cells := 0, slots := 0, locals := 50 }
set_option maxHeartbeats 4000000 in
set_option maxRecDepth 100000 in
theorem mX11_digest (l : Launch) (D : va_G) (cA cR : ClassId) (N : Nat) (a0 : A11) (v0 : V11) (o : Int64 × V11) (hsp : sX11_digest N v0 = some o) : MI l yX11_digest wsX11_digest rX11_digest D cA cR [.ref a0.1] [w11 cA a0 v0] (some (.long o.1)) [w11 cA a0 o.2] 0 0 := by
  have hsp : ((sX11_sums N (v0.1, v0.2.1, v0.2.2.1, (0 : Int32), v0.2.2.2.2.1, v0.2.2.2.2.2.1, v0.2.2.2.2.2.2.1, v0.2.2.2.2.2.2.2.1, v0.2.2.2.2.2.2.2.2.1, v0.2.2.2.2.2.2.2.2.2.1, v0.2.2.2.2.2.2.2.2.2.2.1, v0.2.2.2.2.2.2.2.2.2.2.2.1, v0.2.2.2.2.2.2.2.2.2.2.2.2.1, v0.2.2.2.2.2.2.2.2.2.2.2.2.2) ((88381 : Int64) + v0.2.2.2.2.2.1.toInt64) (0 : Int32) (6 : Int32)).bind (fun o1 => (grd (vp_in (5 : Int32) v0.1.1) ((sX11_sums N (v0.1, v0.2.1, v0.2.2.1, (0 : Int32), v0.2.2.2.2.1, v0.2.2.2.2.2.1, v0.2.2.2.2.2.2.1, v0.2.2.2.2.2.2.2.1, v0.2.2.2.2.2.2.2.2.1, v0.2.2.2.2.2.2.2.2.2.1, v0.2.2.2.2.2.2.2.2.2.2.1, v0.2.2.2.2.2.2.2.2.2.2.2.1, v0.2.2.2.2.2.2.2.2.2.2.2.2.1, v0.2.2.2.2.2.2.2.2.2.2.2.2.2) o1 (10 : Int32) ((6 : Int32) * (v0.1.2 (5 : Int32).toNatClampNeg))).bind (fun o3 => (grd (vp_in (6 : Int32) v0.1.1) (grd (vp_in (6 : Int32) v0.1.1) ((sX11_sums N (v0.1, v0.2.1, v0.2.2.1, (0 : Int32), v0.2.2.2.2.1, v0.2.2.2.2.2.1, v0.2.2.2.2.2.2.1, v0.2.2.2.2.2.2.2.1, v0.2.2.2.2.2.2.2.2.1, v0.2.2.2.2.2.2.2.2.2.1, v0.2.2.2.2.2.2.2.2.2.2.1, v0.2.2.2.2.2.2.2.2.2.2.2.1, v0.2.2.2.2.2.2.2.2.2.2.2.2.1, v0.2.2.2.2.2.2.2.2.2.2.2.2.2) (((31 : Int64) * o3) + (v0.1.2 (6 : Int32).toNatClampNeg).toInt64) (70 : Int32) ((3 : Int32) * (v0.1.2 (6 : Int32).toNatClampNeg))).bind (fun o6 => ((sX11_stepNow (v0.1, v0.2.1, v0.2.2.1, (0 : Int32), v0.2.2.2.2.1, v0.2.2.2.2.2.1, v0.2.2.2.2.2.2.1, v0.2.2.2.2.2.2.2.1, v0.2.2.2.2.2.2.2.2.1, v0.2.2.2.2.2.2.2.2.2.1, v0.2.2.2.2.2.2.2.2.2.2.1, v0.2.2.2.2.2.2.2.2.2.2.2.1, v0.2.2.2.2.2.2.2.2.2.2.2.2.1, v0.2.2.2.2.2.2.2.2.2.2.2.2.2)).bind (fun o7 => ((qX11_digest_83 N v0 N (((31 : Int64) * o6) + o7.toInt64) (0 : Int32)).bind (fun o16 => (grd (vp_in (9 : Int32) v0.1.1) ((sX11_laysChains N (v0.1, v0.2.1, v0.2.2.1, (0 : Int32), v0.2.2.2.2.1, v0.2.2.2.2.2.1, v0.2.2.2.2.2.2.1, v0.2.2.2.2.2.2.2.1, v0.2.2.2.2.2.2.2.2.1, v0.2.2.2.2.2.2.2.2.2.1, v0.2.2.2.2.2.2.2.2.2.2.1, v0.2.2.2.2.2.2.2.2.2.2.2.1, v0.2.2.2.2.2.2.2.2.2.2.2.2.1, v0.2.2.2.2.2.2.2.2.2.2.2.2.2)).bind (fun o22 => ((qX11_digest_159 N o22 N (((31 : Int64) * o16.1) + (v0.1.2 (9 : Int32).toNatClampNeg).toInt64) (0 : Int32)).bind (fun o42 => (some ((((31 : Int64) * o42.1) + o22.2.2.1.toInt64), o22)))))))))))))))))))) = some o := hsp
  refine MI.ofW (cc := cX11_digest) (maxL := 5) (ret := (some .long)) (by decide) rfl (Nat.le_of_ble_eq_true rfl) ?_
  intro p e s m args below meth c A ls Q H locs hx hb hr hlk hml hown hnm hts hz hA hQ hw hl
  have hl : lv_has ls 5 [(0, .ref a0.1)] := hl
  have hw : ww A s.heap D [[(a0.1, .inr (11, [.ref a0.2.1, .ref a0.2.2.1, .int v0.2.2.1, .int v0.2.2.2.1, .ref a0.2.2.2.1, .int v0.2.2.2.2.2.1, .int v0.2.2.2.2.2.2.1, .ref a0.2.2.2.2.1, .int v0.2.2.2.2.2.2.2.2.1, .int v0.2.2.2.2.2.2.2.2.2.1, .int v0.2.2.2.2.2.2.2.2.2.2.1, .int v0.2.2.2.2.2.2.2.2.2.2.2.1, .ref a0.2.2.2.2.2, .int v0.2.2.2.2.2.2.2.2.2.2.2.2.2]))], [(a0.2.1, .inl (cA, v0.1.1, .inl v0.1.2))], [(a0.2.2.1, .inl (cA, v0.2.1.1, .inl v0.2.1.2))], [(a0.2.2.2.1, .inl (cA, v0.2.2.2.2.1.1, .inl v0.2.2.2.2.1.2))], [(a0.2.2.2.2.1, .inl (cA, v0.2.2.2.2.2.2.2.1.1, .inl v0.2.2.2.2.2.2.2.1.2))], [(a0.2.2.2.2.2, .inl (cA, v0.2.2.2.2.2.2.2.2.2.2.2.2.1.1, .inl v0.2.2.2.2.2.2.2.2.2.2.2.2.1.2))]] H locs := hw
  refine lv_aload_n hx hb dX11_digest_0 rfl (lv_at hl 0 rfl) ?_
  refine lv_iconst (v := 0) hx hb dX11_digest_1 (by decide) ?_
  refine k_put (ci := 11) (v := .int (0 : Int32)) (ty := .int) (C := RX11) (T := TX11) (N := 14) (bs1 := [[(a0.1, .inr (11, [.ref a0.2.1, .ref a0.2.2.1, .int v0.2.2.1, .int (0 : Int32), .ref a0.2.2.2.1, .int v0.2.2.2.2.2.1, .int v0.2.2.2.2.2.2.1, .ref a0.2.2.2.2.1, .int v0.2.2.2.2.2.2.2.2.1, .int v0.2.2.2.2.2.2.2.2.2.1, .int v0.2.2.2.2.2.2.2.2.2.2.1, .int v0.2.2.2.2.2.2.2.2.2.2.2.1, .ref a0.2.2.2.2.2, .int v0.2.2.2.2.2.2.2.2.2.2.2.2.2]))], [(a0.2.1, .inl (cA, v0.1.1, .inl v0.1.2))], [(a0.2.2.1, .inl (cA, v0.2.1.1, .inl v0.2.1.2))], [(a0.2.2.2.1, .inl (cA, v0.2.2.2.2.1.1, .inl v0.2.2.2.2.1.2))], [(a0.2.2.2.2.1, .inl (cA, v0.2.2.2.2.2.2.2.1.1, .inl v0.2.2.2.2.2.2.2.1.2))], [(a0.2.2.2.2.2, .inl (cA, v0.2.2.2.2.2.2.2.2.2.2.2.2.1.1, .inl v0.2.2.2.2.2.2.2.2.2.2.2.2.1.2))]]) hx hb hts hown hz hw (by decide +kernel) tyX11 tyX11_ok nmX11 0 rfl rfl 3 (by decide) (hts (.fieldLink RX11 28 "OccupancyMonitorModel" "thrown" "I") (by decide +kernel)) (fun _ h9 => h9) rfl (by decide +kernel) rfl rfl (Nat.le_of_ble_eq_true rfl) dX11_digest_2 rfl (fun H locs hw => ?_)
  refine lv_aload_n hx hb dX11_digest_5 rfl (lv_at hl 0 rfl) ?_
  refine lv_ldc2 hx hb hown (hts (.constantLong RX11 182 88381) (by decide +kernel)) dX11_digest_6 ?_
  refine lv_aload_n hx hb dX11_digest_9 rfl (lv_at hl 0 rfl) ?_
  refine k_get (ci := 11) (v := .int v0.2.2.2.2.2.1) (C := RX11) (T := TX11) (N := 14) hx hb hts hown hz hw (by decide +kernel) 0 rfl rfl 5 (by decide) (hts (.fieldLink RX11 70 "OccupancyMonitorModel" "textLong" "I") (by decide +kernel)) (fun _ h9 => h9) rfl dX11_digest_10 ?_
  refine lv_i2l hx hb dX11_digest_13 rfl ?_
  refine lv_ladd hx hb dX11_digest_14 ?_
  refine lv_iconst (v := 0) hx hb dX11_digest_15 (by decide) ?_
  refine lv_bipush (v := 6) hx hb dX11_digest_16 (by decide) ?_
  have hw : ww A s.heap D [w11 cA a0 (v0.1, v0.2.1, v0.2.2.1, (0 : Int32), v0.2.2.2.2.1, v0.2.2.2.2.2.1, v0.2.2.2.2.2.2.1, v0.2.2.2.2.2.2.2.1, v0.2.2.2.2.2.2.2.2.1, v0.2.2.2.2.2.2.2.2.2.1, v0.2.2.2.2.2.2.2.2.2.2.1, v0.2.2.2.2.2.2.2.2.2.2.2.1, v0.2.2.2.2.2.2.2.2.2.2.2.2.1, v0.2.2.2.2.2.2.2.2.2.2.2.2.2)] H locs := hw
  obtain ⟨o1, hso1, hsp⟩ := bnd_of hsp
  refine k_callV (ci := 11) (C := RX11) (T := TX11) (N := 14) (nA := 3) (As := [.long ((88381 : Int64) + v0.2.2.2.2.2.1.toInt64), .int (0 : Int32), .int (6 : Int32)]) (cs := [w11 cA a0 (v0.1, v0.2.1, v0.2.2.1, (0 : Int32), v0.2.2.2.2.1, v0.2.2.2.2.2.1, v0.2.2.2.2.2.2.1, v0.2.2.2.2.2.2.2.1, v0.2.2.2.2.2.2.2.2.1, v0.2.2.2.2.2.2.2.2.2.1, v0.2.2.2.2.2.2.2.2.2.2.1, v0.2.2.2.2.2.2.2.2.2.2.2.1, v0.2.2.2.2.2.2.2.2.2.2.2.2.1, v0.2.2.2.2.2.2.2.2.2.2.2.2.2)]) (rs := []) (cs1 := [w11 cA a0 (v0.1, v0.2.1, v0.2.2.1, (0 : Int32), v0.2.2.2.2.1, v0.2.2.2.2.2.1, v0.2.2.2.2.2.2.1, v0.2.2.2.2.2.2.2.1, v0.2.2.2.2.2.2.2.2.1, v0.2.2.2.2.2.2.2.2.2.1, v0.2.2.2.2.2.2.2.2.2.2.1, v0.2.2.2.2.2.2.2.2.2.2.2.1, v0.2.2.2.2.2.2.2.2.2.2.2.2.1, v0.2.2.2.2.2.2.2.2.2.2.2.2.2)]) (bs1 := [w11 cA a0 (v0.1, v0.2.1, v0.2.2.1, (0 : Int32), v0.2.2.2.2.1, v0.2.2.2.2.2.1, v0.2.2.2.2.2.2.1, v0.2.2.2.2.2.2.2.1, v0.2.2.2.2.2.2.2.2.1, v0.2.2.2.2.2.2.2.2.2.1, v0.2.2.2.2.2.2.2.2.2.2.1, v0.2.2.2.2.2.2.2.2.2.2.2.1, v0.2.2.2.2.2.2.2.2.2.2.2.2.1, v0.2.2.2.2.2.2.2.2.2.2.2.2.2)]) (rest := []) (st1 := [.long o1]) ⟨hx, hb, hml, hown, hts⟩ hz hw hA (mX11_sums l D cA cR N a0 (v0.1, v0.2.1, v0.2.2.1, (0 : Int32), v0.2.2.2.2.1, v0.2.2.2.2.2.1, v0.2.2.2.2.2.2.1, v0.2.2.2.2.2.2.2.1, v0.2.2.2.2.2.2.2.2.1, v0.2.2.2.2.2.2.2.2.2.1, v0.2.2.2.2.2.2.2.2.2.2.1, v0.2.2.2.2.2.2.2.2.2.2.2.1, v0.2.2.2.2.2.2.2.2.2.2.2.2.1, v0.2.2.2.2.2.2.2.2.2.2.2.2.2) ((88381 : Int64) + v0.2.2.2.2.2.1.toInt64) (0 : Int32) (6 : Int32) o1 hso1) gX11_digest_X11_sums rfl rfl rfl (by decide +kernel) rfl ⟨Nat.le_of_ble_eq_true rfl, Nat.le_of_ble_eq_true rfl⟩ rfl rfl hl.1 rfl (Nat.le_of_ble_eq_true rfl) dX11_digest_18 ⟨Nat.le_of_ble_eq_true rfl, Nat.le_of_ble_eq_true rfl⟩ [0] [] [0] rfl rfl rfl rfl rfl rfl (fun H locs hw => ?_)
  have hw : ww A s.heap D [[(a0.1, .inr (11, [.ref a0.2.1, .ref a0.2.2.1, .int v0.2.2.1, .int (0 : Int32), .ref a0.2.2.2.1, .int v0.2.2.2.2.2.1, .int v0.2.2.2.2.2.2.1, .ref a0.2.2.2.2.1, .int v0.2.2.2.2.2.2.2.2.1, .int v0.2.2.2.2.2.2.2.2.2.1, .int v0.2.2.2.2.2.2.2.2.2.2.1, .int v0.2.2.2.2.2.2.2.2.2.2.2.1, .ref a0.2.2.2.2.2, .int v0.2.2.2.2.2.2.2.2.2.2.2.2.2]))], [(a0.2.1, .inl (cA, v0.1.1, .inl v0.1.2))], [(a0.2.2.1, .inl (cA, v0.2.1.1, .inl v0.2.1.2))], [(a0.2.2.2.1, .inl (cA, v0.2.2.2.2.1.1, .inl v0.2.2.2.2.1.2))], [(a0.2.2.2.2.1, .inl (cA, v0.2.2.2.2.2.2.2.1.1, .inl v0.2.2.2.2.2.2.2.1.2))], [(a0.2.2.2.2.2, .inl (cA, v0.2.2.2.2.2.2.2.2.2.2.2.2.1.1, .inl v0.2.2.2.2.2.2.2.2.2.2.2.2.1.2))]] H locs := hw
  refine lv_lstore_n (lv' := [(1, .long o1), (0, .ref a0.1)]) hx hb dX11_digest_21 rfl hl (by decide) rfl (fun ls hl => ?_)
  refine lv_aload_n hx hb dX11_digest_22 rfl (lv_at hl 1 rfl) ?_
  refine lv_lload_n hx hb dX11_digest_23 rfl (lv_at hl 0 rfl) ?_
  refine lv_bipush (v := 10) hx hb dX11_digest_24 (by decide) ?_
  refine lv_bipush (v := 6) hx hb dX11_digest_26 (by decide) ?_
  refine lv_aload_n hx hb dX11_digest_28 rfl (lv_at hl 1 rfl) ?_
  refine k_get (ci := 11) (v := .ref a0.2.1) (C := RX11) (T := TX11) (N := 14) hx hb hts hown hz hw (by decide +kernel) 0 rfl rfl 0 (by decide) (hts (.fieldLink RX11 7 "OccupancyMonitorModel" "all" "[I") (by decide +kernel)) (fun _ h9 => h9) rfl dX11_digest_29 ?_
  refine lv_iconst (v := 5) hx hb dX11_digest_32 (by decide) ?_
  obtain ⟨g2, hsp⟩ := grd_of hsp
  refine k_iald hx hb hz hw 1 rfl g2 dX11_digest_33 ?_
  refine lv_imul hx hb dX11_digest_34 ?_
  have hw : ww A s.heap D [w11 cA a0 (v0.1, v0.2.1, v0.2.2.1, (0 : Int32), v0.2.2.2.2.1, v0.2.2.2.2.2.1, v0.2.2.2.2.2.2.1, v0.2.2.2.2.2.2.2.1, v0.2.2.2.2.2.2.2.2.1, v0.2.2.2.2.2.2.2.2.2.1, v0.2.2.2.2.2.2.2.2.2.2.1, v0.2.2.2.2.2.2.2.2.2.2.2.1, v0.2.2.2.2.2.2.2.2.2.2.2.2.1, v0.2.2.2.2.2.2.2.2.2.2.2.2.2)] H locs := hw
  obtain ⟨o3, hso3, hsp⟩ := bnd_of hsp
  refine k_callV (ci := 11) (C := RX11) (T := TX11) (N := 14) (nA := 3) (As := [.long o1, .int (10 : Int32), .int ((6 : Int32) * (v0.1.2 (5 : Int32).toNatClampNeg))]) (cs := [w11 cA a0 (v0.1, v0.2.1, v0.2.2.1, (0 : Int32), v0.2.2.2.2.1, v0.2.2.2.2.2.1, v0.2.2.2.2.2.2.1, v0.2.2.2.2.2.2.2.1, v0.2.2.2.2.2.2.2.2.1, v0.2.2.2.2.2.2.2.2.2.1, v0.2.2.2.2.2.2.2.2.2.2.1, v0.2.2.2.2.2.2.2.2.2.2.2.1, v0.2.2.2.2.2.2.2.2.2.2.2.2.1, v0.2.2.2.2.2.2.2.2.2.2.2.2.2)]) (rs := []) (cs1 := [w11 cA a0 (v0.1, v0.2.1, v0.2.2.1, (0 : Int32), v0.2.2.2.2.1, v0.2.2.2.2.2.1, v0.2.2.2.2.2.2.1, v0.2.2.2.2.2.2.2.1, v0.2.2.2.2.2.2.2.2.1, v0.2.2.2.2.2.2.2.2.2.1, v0.2.2.2.2.2.2.2.2.2.2.1, v0.2.2.2.2.2.2.2.2.2.2.2.1, v0.2.2.2.2.2.2.2.2.2.2.2.2.1, v0.2.2.2.2.2.2.2.2.2.2.2.2.2)]) (bs1 := [w11 cA a0 (v0.1, v0.2.1, v0.2.2.1, (0 : Int32), v0.2.2.2.2.1, v0.2.2.2.2.2.1, v0.2.2.2.2.2.2.1, v0.2.2.2.2.2.2.2.1, v0.2.2.2.2.2.2.2.2.1, v0.2.2.2.2.2.2.2.2.2.1, v0.2.2.2.2.2.2.2.2.2.2.1, v0.2.2.2.2.2.2.2.2.2.2.2.1, v0.2.2.2.2.2.2.2.2.2.2.2.2.1, v0.2.2.2.2.2.2.2.2.2.2.2.2.2)]) (rest := []) (st1 := [.long o3]) ⟨hx, hb, hml, hown, hts⟩ hz hw hA (mX11_sums l D cA cR N a0 (v0.1, v0.2.1, v0.2.2.1, (0 : Int32), v0.2.2.2.2.1, v0.2.2.2.2.2.1, v0.2.2.2.2.2.2.1, v0.2.2.2.2.2.2.2.1, v0.2.2.2.2.2.2.2.2.1, v0.2.2.2.2.2.2.2.2.2.1, v0.2.2.2.2.2.2.2.2.2.2.1, v0.2.2.2.2.2.2.2.2.2.2.2.1, v0.2.2.2.2.2.2.2.2.2.2.2.2.1, v0.2.2.2.2.2.2.2.2.2.2.2.2.2) o1 (10 : Int32) ((6 : Int32) * (v0.1.2 (5 : Int32).toNatClampNeg)) o3 hso3) gX11_digest_X11_sums rfl rfl rfl (by decide +kernel) rfl ⟨Nat.le_of_ble_eq_true rfl, Nat.le_of_ble_eq_true rfl⟩ rfl rfl hl.1 rfl (Nat.le_of_ble_eq_true rfl) dX11_digest_35 ⟨Nat.le_of_ble_eq_true rfl, Nat.le_of_ble_eq_true rfl⟩ [0] [] [0] rfl rfl rfl rfl rfl rfl (fun H locs hw => ?_)
  have hw : ww A s.heap D [[(a0.1, .inr (11, [.ref a0.2.1, .ref a0.2.2.1, .int v0.2.2.1, .int (0 : Int32), .ref a0.2.2.2.1, .int v0.2.2.2.2.2.1, .int v0.2.2.2.2.2.2.1, .ref a0.2.2.2.2.1, .int v0.2.2.2.2.2.2.2.2.1, .int v0.2.2.2.2.2.2.2.2.2.1, .int v0.2.2.2.2.2.2.2.2.2.2.1, .int v0.2.2.2.2.2.2.2.2.2.2.2.1, .ref a0.2.2.2.2.2, .int v0.2.2.2.2.2.2.2.2.2.2.2.2.2]))], [(a0.2.1, .inl (cA, v0.1.1, .inl v0.1.2))], [(a0.2.2.1, .inl (cA, v0.2.1.1, .inl v0.2.1.2))], [(a0.2.2.2.1, .inl (cA, v0.2.2.2.2.1.1, .inl v0.2.2.2.2.1.2))], [(a0.2.2.2.2.1, .inl (cA, v0.2.2.2.2.2.2.2.1.1, .inl v0.2.2.2.2.2.2.2.1.2))], [(a0.2.2.2.2.2, .inl (cA, v0.2.2.2.2.2.2.2.2.2.2.2.2.1.1, .inl v0.2.2.2.2.2.2.2.2.2.2.2.2.1.2))]] H locs := hw
  refine lv_lstore_n (lv' := [(1, .long o3), (0, .ref a0.1)]) hx hb dX11_digest_38 rfl hl (by decide) rfl (fun ls hl => ?_)
  refine lv_aload_n hx hb dX11_digest_39 rfl (lv_at hl 1 rfl) ?_
  refine lv_ldc2 hx hb hown (hts (.constantLong RX11 35 31) (by decide +kernel)) dX11_digest_40 ?_
  refine lv_lload_n hx hb dX11_digest_43 rfl (lv_at hl 0 rfl) ?_
  refine lv_lmul hx hb dX11_digest_44 ?_
  refine lv_aload_n hx hb dX11_digest_45 rfl (lv_at hl 1 rfl) ?_
  refine k_get (ci := 11) (v := .ref a0.2.1) (C := RX11) (T := TX11) (N := 14) hx hb hts hown hz hw (by decide +kernel) 0 rfl rfl 0 (by decide) (hts (.fieldLink RX11 7 "OccupancyMonitorModel" "all" "[I") (by decide +kernel)) (fun _ h9 => h9) rfl dX11_digest_46 ?_
  refine lv_bipush (v := 6) hx hb dX11_digest_49 (by decide) ?_
  obtain ⟨g4, hsp⟩ := grd_of hsp
  refine k_iald hx hb hz hw 1 rfl g4 dX11_digest_51 ?_
  refine lv_i2l hx hb dX11_digest_52 rfl ?_
  refine lv_ladd hx hb dX11_digest_53 ?_
  refine lv_bipush (v := 70) hx hb dX11_digest_54 (by decide) ?_
  refine lv_iconst (v := 3) hx hb dX11_digest_56 (by decide) ?_
  refine lv_aload_n hx hb dX11_digest_57 rfl (lv_at hl 1 rfl) ?_
  refine k_get (ci := 11) (v := .ref a0.2.1) (C := RX11) (T := TX11) (N := 14) hx hb hts hown hz hw (by decide +kernel) 0 rfl rfl 0 (by decide) (hts (.fieldLink RX11 7 "OccupancyMonitorModel" "all" "[I") (by decide +kernel)) (fun _ h9 => h9) rfl dX11_digest_58 ?_
  refine lv_bipush (v := 6) hx hb dX11_digest_61 (by decide) ?_
  obtain ⟨g5, hsp⟩ := grd_of hsp
  refine k_iald hx hb hz hw 1 rfl g5 dX11_digest_63 ?_
  refine lv_imul hx hb dX11_digest_64 ?_
  have hw : ww A s.heap D [w11 cA a0 (v0.1, v0.2.1, v0.2.2.1, (0 : Int32), v0.2.2.2.2.1, v0.2.2.2.2.2.1, v0.2.2.2.2.2.2.1, v0.2.2.2.2.2.2.2.1, v0.2.2.2.2.2.2.2.2.1, v0.2.2.2.2.2.2.2.2.2.1, v0.2.2.2.2.2.2.2.2.2.2.1, v0.2.2.2.2.2.2.2.2.2.2.2.1, v0.2.2.2.2.2.2.2.2.2.2.2.2.1, v0.2.2.2.2.2.2.2.2.2.2.2.2.2)] H locs := hw
  obtain ⟨o6, hso6, hsp⟩ := bnd_of hsp
  refine k_callV (ci := 11) (C := RX11) (T := TX11) (N := 14) (nA := 3) (As := [.long (((31 : Int64) * o3) + (v0.1.2 (6 : Int32).toNatClampNeg).toInt64), .int (70 : Int32), .int ((3 : Int32) * (v0.1.2 (6 : Int32).toNatClampNeg))]) (cs := [w11 cA a0 (v0.1, v0.2.1, v0.2.2.1, (0 : Int32), v0.2.2.2.2.1, v0.2.2.2.2.2.1, v0.2.2.2.2.2.2.1, v0.2.2.2.2.2.2.2.1, v0.2.2.2.2.2.2.2.2.1, v0.2.2.2.2.2.2.2.2.2.1, v0.2.2.2.2.2.2.2.2.2.2.1, v0.2.2.2.2.2.2.2.2.2.2.2.1, v0.2.2.2.2.2.2.2.2.2.2.2.2.1, v0.2.2.2.2.2.2.2.2.2.2.2.2.2)]) (rs := []) (cs1 := [w11 cA a0 (v0.1, v0.2.1, v0.2.2.1, (0 : Int32), v0.2.2.2.2.1, v0.2.2.2.2.2.1, v0.2.2.2.2.2.2.1, v0.2.2.2.2.2.2.2.1, v0.2.2.2.2.2.2.2.2.1, v0.2.2.2.2.2.2.2.2.2.1, v0.2.2.2.2.2.2.2.2.2.2.1, v0.2.2.2.2.2.2.2.2.2.2.2.1, v0.2.2.2.2.2.2.2.2.2.2.2.2.1, v0.2.2.2.2.2.2.2.2.2.2.2.2.2)]) (bs1 := [w11 cA a0 (v0.1, v0.2.1, v0.2.2.1, (0 : Int32), v0.2.2.2.2.1, v0.2.2.2.2.2.1, v0.2.2.2.2.2.2.1, v0.2.2.2.2.2.2.2.1, v0.2.2.2.2.2.2.2.2.1, v0.2.2.2.2.2.2.2.2.2.1, v0.2.2.2.2.2.2.2.2.2.2.1, v0.2.2.2.2.2.2.2.2.2.2.2.1, v0.2.2.2.2.2.2.2.2.2.2.2.2.1, v0.2.2.2.2.2.2.2.2.2.2.2.2.2)]) (rest := []) (st1 := [.long o6]) ⟨hx, hb, hml, hown, hts⟩ hz hw hA (mX11_sums l D cA cR N a0 (v0.1, v0.2.1, v0.2.2.1, (0 : Int32), v0.2.2.2.2.1, v0.2.2.2.2.2.1, v0.2.2.2.2.2.2.1, v0.2.2.2.2.2.2.2.1, v0.2.2.2.2.2.2.2.2.1, v0.2.2.2.2.2.2.2.2.2.1, v0.2.2.2.2.2.2.2.2.2.2.1, v0.2.2.2.2.2.2.2.2.2.2.2.1, v0.2.2.2.2.2.2.2.2.2.2.2.2.1, v0.2.2.2.2.2.2.2.2.2.2.2.2.2) (((31 : Int64) * o3) + (v0.1.2 (6 : Int32).toNatClampNeg).toInt64) (70 : Int32) ((3 : Int32) * (v0.1.2 (6 : Int32).toNatClampNeg)) o6 hso6) gX11_digest_X11_sums rfl rfl rfl (by decide +kernel) rfl ⟨Nat.le_of_ble_eq_true rfl, Nat.le_of_ble_eq_true rfl⟩ rfl rfl hl.1 rfl (Nat.le_of_ble_eq_true rfl) dX11_digest_65 ⟨Nat.le_of_ble_eq_true rfl, Nat.le_of_ble_eq_true rfl⟩ [0] [] [0] rfl rfl rfl rfl rfl rfl (fun H locs hw => ?_)
  have hw : ww A s.heap D [[(a0.1, .inr (11, [.ref a0.2.1, .ref a0.2.2.1, .int v0.2.2.1, .int (0 : Int32), .ref a0.2.2.2.1, .int v0.2.2.2.2.2.1, .int v0.2.2.2.2.2.2.1, .ref a0.2.2.2.2.1, .int v0.2.2.2.2.2.2.2.2.1, .int v0.2.2.2.2.2.2.2.2.2.1, .int v0.2.2.2.2.2.2.2.2.2.2.1, .int v0.2.2.2.2.2.2.2.2.2.2.2.1, .ref a0.2.2.2.2.2, .int v0.2.2.2.2.2.2.2.2.2.2.2.2.2]))], [(a0.2.1, .inl (cA, v0.1.1, .inl v0.1.2))], [(a0.2.2.1, .inl (cA, v0.2.1.1, .inl v0.2.1.2))], [(a0.2.2.2.1, .inl (cA, v0.2.2.2.2.1.1, .inl v0.2.2.2.2.1.2))], [(a0.2.2.2.2.1, .inl (cA, v0.2.2.2.2.2.2.2.1.1, .inl v0.2.2.2.2.2.2.2.1.2))], [(a0.2.2.2.2.2, .inl (cA, v0.2.2.2.2.2.2.2.2.2.2.2.2.1.1, .inl v0.2.2.2.2.2.2.2.2.2.2.2.2.1.2))]] H locs := hw
  refine lv_lstore_n (lv' := [(1, .long o6), (0, .ref a0.1)]) hx hb dX11_digest_68 rfl hl (by decide) rfl (fun ls hl => ?_)
  refine lv_ldc2 hx hb hown (hts (.constantLong RX11 35 31) (by decide +kernel)) dX11_digest_69 ?_
  refine lv_lload_n hx hb dX11_digest_72 rfl (lv_at hl 0 rfl) ?_
  refine lv_lmul hx hb dX11_digest_73 ?_
  refine lv_aload_n hx hb dX11_digest_74 rfl (lv_at hl 1 rfl) ?_
  have hw : ww A s.heap D [w11 cA a0 (v0.1, v0.2.1, v0.2.2.1, (0 : Int32), v0.2.2.2.2.1, v0.2.2.2.2.2.1, v0.2.2.2.2.2.2.1, v0.2.2.2.2.2.2.2.1, v0.2.2.2.2.2.2.2.2.1, v0.2.2.2.2.2.2.2.2.2.1, v0.2.2.2.2.2.2.2.2.2.2.1, v0.2.2.2.2.2.2.2.2.2.2.2.1, v0.2.2.2.2.2.2.2.2.2.2.2.2.1, v0.2.2.2.2.2.2.2.2.2.2.2.2.2)] H locs := hw
  obtain ⟨o7, hso7, hsp⟩ := bnd_of hsp
  refine k_callV (ci := 11) (C := RX11) (T := TX11) (N := 14) (nA := 0) (As := []) (cs := [w11 cA a0 (v0.1, v0.2.1, v0.2.2.1, (0 : Int32), v0.2.2.2.2.1, v0.2.2.2.2.2.1, v0.2.2.2.2.2.2.1, v0.2.2.2.2.2.2.2.1, v0.2.2.2.2.2.2.2.2.1, v0.2.2.2.2.2.2.2.2.2.1, v0.2.2.2.2.2.2.2.2.2.2.1, v0.2.2.2.2.2.2.2.2.2.2.2.1, v0.2.2.2.2.2.2.2.2.2.2.2.2.1, v0.2.2.2.2.2.2.2.2.2.2.2.2.2)]) (rs := []) (cs1 := [w11 cA a0 (v0.1, v0.2.1, v0.2.2.1, (0 : Int32), v0.2.2.2.2.1, v0.2.2.2.2.2.1, v0.2.2.2.2.2.2.1, v0.2.2.2.2.2.2.2.1, v0.2.2.2.2.2.2.2.2.1, v0.2.2.2.2.2.2.2.2.2.1, v0.2.2.2.2.2.2.2.2.2.2.1, v0.2.2.2.2.2.2.2.2.2.2.2.1, v0.2.2.2.2.2.2.2.2.2.2.2.2.1, v0.2.2.2.2.2.2.2.2.2.2.2.2.2)]) (bs1 := [w11 cA a0 (v0.1, v0.2.1, v0.2.2.1, (0 : Int32), v0.2.2.2.2.1, v0.2.2.2.2.2.1, v0.2.2.2.2.2.2.1, v0.2.2.2.2.2.2.2.1, v0.2.2.2.2.2.2.2.2.1, v0.2.2.2.2.2.2.2.2.2.1, v0.2.2.2.2.2.2.2.2.2.2.1, v0.2.2.2.2.2.2.2.2.2.2.2.1, v0.2.2.2.2.2.2.2.2.2.2.2.2.1, v0.2.2.2.2.2.2.2.2.2.2.2.2.2)]) (rest := [.long ((31 : Int64) * o6)]) (st1 := [.int o7, .long ((31 : Int64) * o6)]) ⟨hx, hb, hml, hown, hts⟩ hz hw hA (mX11_stepNow l D cA cR a0 (v0.1, v0.2.1, v0.2.2.1, (0 : Int32), v0.2.2.2.2.1, v0.2.2.2.2.2.1, v0.2.2.2.2.2.2.1, v0.2.2.2.2.2.2.2.1, v0.2.2.2.2.2.2.2.2.1, v0.2.2.2.2.2.2.2.2.2.1, v0.2.2.2.2.2.2.2.2.2.2.1, v0.2.2.2.2.2.2.2.2.2.2.2.1, v0.2.2.2.2.2.2.2.2.2.2.2.2.1, v0.2.2.2.2.2.2.2.2.2.2.2.2.2) o7 hso7) gX11_digest_X11_stepNow rfl rfl rfl (by decide +kernel) rfl ⟨Nat.le_of_ble_eq_true rfl, Nat.le_of_ble_eq_true rfl⟩ rfl rfl hl.1 rfl (Nat.le_of_ble_eq_true rfl) dX11_digest_75 ⟨Nat.le_of_ble_eq_true rfl, Nat.le_of_ble_eq_true rfl⟩ [0] [] [0] rfl rfl rfl rfl rfl rfl (fun H locs hw => ?_)
  have hw : ww A s.heap D [[(a0.1, .inr (11, [.ref a0.2.1, .ref a0.2.2.1, .int v0.2.2.1, .int (0 : Int32), .ref a0.2.2.2.1, .int v0.2.2.2.2.2.1, .int v0.2.2.2.2.2.2.1, .ref a0.2.2.2.2.1, .int v0.2.2.2.2.2.2.2.2.1, .int v0.2.2.2.2.2.2.2.2.2.1, .int v0.2.2.2.2.2.2.2.2.2.2.1, .int v0.2.2.2.2.2.2.2.2.2.2.2.1, .ref a0.2.2.2.2.2, .int v0.2.2.2.2.2.2.2.2.2.2.2.2.2]))], [(a0.2.1, .inl (cA, v0.1.1, .inl v0.1.2))], [(a0.2.2.1, .inl (cA, v0.2.1.1, .inl v0.2.1.2))], [(a0.2.2.2.1, .inl (cA, v0.2.2.2.2.1.1, .inl v0.2.2.2.2.1.2))], [(a0.2.2.2.2.1, .inl (cA, v0.2.2.2.2.2.2.2.1.1, .inl v0.2.2.2.2.2.2.2.1.2))], [(a0.2.2.2.2.2, .inl (cA, v0.2.2.2.2.2.2.2.2.2.2.2.2.1.1, .inl v0.2.2.2.2.2.2.2.2.2.2.2.2.1.2))]] H locs := hw
  refine lv_i2l hx hb dX11_digest_78 rfl ?_
  refine lv_ladd hx hb dX11_digest_79 ?_
  refine lv_lstore_n (lv' := [(1, .long (((31 : Int64) * o6) + o7.toInt64)), (0, .ref a0.1)]) hx hb dX11_digest_80 rfl hl (by decide) rfl (fun ls hl => ?_)
  refine lv_iconst (v := 0) hx hb dX11_digest_81 (by decide) ?_
  refine lv_istore_n (lv' := [(3, .int (0 : Int32)), (1, .long (((31 : Int64) * o6) + o7.toInt64)), (0, .ref a0.1)]) hx hb dX11_digest_82 rfl hl (by decide) rfl (fun ls hl => ?_)
  have L83 : ∀ (n83 : Nat) (z83_0 : Int64) (z83_1 : Int32) (o16 : Int64 × Int32), qX11_digest_83 N v0 n83 z83_0 z83_1 = some o16 → ∀ (H : Heap) (locs : List Loc) (ls : Array Slot), ww A s.heap D [[(a0.1, .inr (11, [.ref a0.2.1, .ref a0.2.2.1, .int v0.2.2.1, .int (0 : Int32), .ref a0.2.2.2.1, .int v0.2.2.2.2.2.1, .int v0.2.2.2.2.2.2.1, .ref a0.2.2.2.2.1, .int v0.2.2.2.2.2.2.2.2.1, .int v0.2.2.2.2.2.2.2.2.2.1, .int v0.2.2.2.2.2.2.2.2.2.2.1, .int v0.2.2.2.2.2.2.2.2.2.2.2.1, .ref a0.2.2.2.2.2, .int v0.2.2.2.2.2.2.2.2.2.2.2.2.2]))], [(a0.2.1, .inl (cA, v0.1.1, .inl v0.1.2))], [(a0.2.2.1, .inl (cA, v0.2.1.1, .inl v0.2.1.2))], [(a0.2.2.2.1, .inl (cA, v0.2.2.2.2.1.1, .inl v0.2.2.2.2.1.2))], [(a0.2.2.2.2.1, .inl (cA, v0.2.2.2.2.2.2.2.1.1, .inl v0.2.2.2.2.2.2.2.1.2))], [(a0.2.2.2.2.2, .inl (cA, v0.2.2.2.2.2.2.2.2.2.2.2.2.1.1, .inl v0.2.2.2.2.2.2.2.2.2.2.2.2.1.2))]] H locs → lv_has ls 5 [(0, .ref a0.1), (1, .long z83_0), (3, .int z83_1)] → (∀ (y138 : Int64 × Int32), o16 = y138 → ∀ (H : Heap) (locs : List Loc) (ls : Array Slot), ww A s.heap D [[(a0.1, .inr (11, [.ref a0.2.1, .ref a0.2.2.1, .int v0.2.2.1, .int (0 : Int32), .ref a0.2.2.2.1, .int v0.2.2.2.2.2.1, .int v0.2.2.2.2.2.2.1, .ref a0.2.2.2.2.1, .int v0.2.2.2.2.2.2.2.2.1, .int v0.2.2.2.2.2.2.2.2.2.1, .int v0.2.2.2.2.2.2.2.2.2.2.1, .int v0.2.2.2.2.2.2.2.2.2.2.2.1, .ref a0.2.2.2.2.2, .int v0.2.2.2.2.2.2.2.2.2.2.2.2.2]))], [(a0.2.1, .inl (cA, v0.1.1, .inl v0.1.2))], [(a0.2.2.1, .inl (cA, v0.2.1.1, .inl v0.2.1.2))], [(a0.2.2.2.1, .inl (cA, v0.2.2.2.2.1.1, .inl v0.2.2.2.2.1.2))], [(a0.2.2.2.2.1, .inl (cA, v0.2.2.2.2.2.2.2.1.1, .inl v0.2.2.2.2.2.2.2.1.2))], [(a0.2.2.2.2.2, .inl (cA, v0.2.2.2.2.2.2.2.2.2.2.2.2.1.1, .inl v0.2.2.2.2.2.2.2.2.2.2.2.2.1.2))]] H locs → lv_has ls 5 [(0, .ref a0.1), (1, .long y138.1), (3, .int y138.2)] → W p l e rX11_digest s m args below meth c H locs 0 0 Q (F0 m 138 ls [])) → W p l e rX11_digest s m args below meth c H locs 0 0 Q (F0 m 83 ls []) := by
    intro n83
    induction n83 with
    | zero => intro z83_0 z83_1 o16 hsp; cases hsp
    | succ n83 ih83 =>
      intro z83_0 z83_1 o16 hsp H locs ls hw hl kx83_138
      have hsp : (if (32 : Int32) ≤ z83_1 then (some (z83_0, z83_1)) else (grd (vp_in ((106 : Int32) + z83_1) v0.1.1) ((sX11_sums N (v0.1, v0.2.1, v0.2.2.1, (0 : Int32), v0.2.2.2.2.1, v0.2.2.2.2.2.1, v0.2.2.2.2.2.2.1, v0.2.2.2.2.2.2.2.1, v0.2.2.2.2.2.2.2.2.1, v0.2.2.2.2.2.2.2.2.2.1, v0.2.2.2.2.2.2.2.2.2.2.1, v0.2.2.2.2.2.2.2.2.2.2.2.1, v0.2.2.2.2.2.2.2.2.2.2.2.2.1, v0.2.2.2.2.2.2.2.2.2.2.2.2.2) (((31 : Int64) * z83_0) + (v0.1.2 ((106 : Int32) + z83_1).toNatClampNeg).toInt64) ((138 : Int32) + ((13 : Int32) * z83_1)) (4 : Int32)).bind (fun o19 => ((sX11_averageOf N (v0.1, v0.2.1, v0.2.2.1, (0 : Int32), v0.2.2.2.2.1, v0.2.2.2.2.2.1, v0.2.2.2.2.2.2.1, v0.2.2.2.2.2.2.2.1, v0.2.2.2.2.2.2.2.2.1, v0.2.2.2.2.2.2.2.2.2.1, v0.2.2.2.2.2.2.2.2.2.2.1, v0.2.2.2.2.2.2.2.2.2.2.2.1, v0.2.2.2.2.2.2.2.2.2.2.2.2.1, v0.2.2.2.2.2.2.2.2.2.2.2.2.2) z83_1).bind (fun o20 => (qX11_digest_83 N v0 n83 (((31 : Int64) * o19) + o20.toInt64) (z83_1 + 1)))))))) = some o16 := hsp
      refine lv_iload_n hx hb dX11_digest_83 rfl (lv_at hl 2 rfl) ?_
      refine lv_bipush (v := 32) hx hb dX11_digest_84 (by decide) ?_
      refine lv_icmp_ge (tgt := 138) hx hb dX11_digest_86 (by decide) (fun c17 => ?_) (fun c17 => ?_)
      · have hsp := ift c17 hsp
        have hsp := Option.some.inj hsp
        subst hsp
        exact kx83_138 _ rfl _ _ _ hw (lv_sub hl [0, 1, 2] rfl)
      · have hsp := iff_ c17 hsp
        refine lv_aload_n hx hb dX11_digest_89 rfl (lv_at hl 0 rfl) ?_
        refine lv_ldc2 hx hb hown (hts (.constantLong RX11 35 31) (by decide +kernel)) dX11_digest_90 ?_
        refine lv_lload_n hx hb dX11_digest_93 rfl (lv_at hl 1 rfl) ?_
        refine lv_lmul hx hb dX11_digest_94 ?_
        refine lv_aload_n hx hb dX11_digest_95 rfl (lv_at hl 0 rfl) ?_
        refine k_get (ci := 11) (v := .ref a0.2.1) (C := RX11) (T := TX11) (N := 14) hx hb hts hown hz hw (by decide +kernel) 0 rfl rfl 0 (by decide) (hts (.fieldLink RX11 7 "OccupancyMonitorModel" "all" "[I") (by decide +kernel)) (fun _ h9 => h9) rfl dX11_digest_96 ?_
        refine lv_bipush (v := 106) hx hb dX11_digest_99 (by decide) ?_
        refine lv_iload_n hx hb dX11_digest_101 rfl (lv_at hl 2 rfl) ?_
        refine lv_iadd hx hb dX11_digest_102 ?_
        obtain ⟨g18, hsp⟩ := grd_of hsp
        refine k_iald hx hb hz hw 1 rfl g18 dX11_digest_103 ?_
        refine lv_i2l hx hb dX11_digest_104 rfl ?_
        refine lv_ladd hx hb dX11_digest_105 ?_
        refine lv_sipush (v := 138) hx hb dX11_digest_106 (by decide) ?_
        refine lv_bipush (v := 13) hx hb dX11_digest_109 (by decide) ?_
        refine lv_iload_n hx hb dX11_digest_111 rfl (lv_at hl 2 rfl) ?_
        refine lv_imul hx hb dX11_digest_112 ?_
        refine lv_iadd hx hb dX11_digest_113 ?_
        refine lv_iconst (v := 4) hx hb dX11_digest_114 (by decide) ?_
        have hw : ww A s.heap D [w11 cA a0 (v0.1, v0.2.1, v0.2.2.1, (0 : Int32), v0.2.2.2.2.1, v0.2.2.2.2.2.1, v0.2.2.2.2.2.2.1, v0.2.2.2.2.2.2.2.1, v0.2.2.2.2.2.2.2.2.1, v0.2.2.2.2.2.2.2.2.2.1, v0.2.2.2.2.2.2.2.2.2.2.1, v0.2.2.2.2.2.2.2.2.2.2.2.1, v0.2.2.2.2.2.2.2.2.2.2.2.2.1, v0.2.2.2.2.2.2.2.2.2.2.2.2.2)] H locs := hw
        obtain ⟨o19, hso19, hsp⟩ := bnd_of hsp
        refine k_callV (ci := 11) (C := RX11) (T := TX11) (N := 14) (nA := 3) (As := [.long (((31 : Int64) * z83_0) + (v0.1.2 ((106 : Int32) + z83_1).toNatClampNeg).toInt64), .int ((138 : Int32) + ((13 : Int32) * z83_1)), .int (4 : Int32)]) (cs := [w11 cA a0 (v0.1, v0.2.1, v0.2.2.1, (0 : Int32), v0.2.2.2.2.1, v0.2.2.2.2.2.1, v0.2.2.2.2.2.2.1, v0.2.2.2.2.2.2.2.1, v0.2.2.2.2.2.2.2.2.1, v0.2.2.2.2.2.2.2.2.2.1, v0.2.2.2.2.2.2.2.2.2.2.1, v0.2.2.2.2.2.2.2.2.2.2.2.1, v0.2.2.2.2.2.2.2.2.2.2.2.2.1, v0.2.2.2.2.2.2.2.2.2.2.2.2.2)]) (rs := []) (cs1 := [w11 cA a0 (v0.1, v0.2.1, v0.2.2.1, (0 : Int32), v0.2.2.2.2.1, v0.2.2.2.2.2.1, v0.2.2.2.2.2.2.1, v0.2.2.2.2.2.2.2.1, v0.2.2.2.2.2.2.2.2.1, v0.2.2.2.2.2.2.2.2.2.1, v0.2.2.2.2.2.2.2.2.2.2.1, v0.2.2.2.2.2.2.2.2.2.2.2.1, v0.2.2.2.2.2.2.2.2.2.2.2.2.1, v0.2.2.2.2.2.2.2.2.2.2.2.2.2)]) (bs1 := [w11 cA a0 (v0.1, v0.2.1, v0.2.2.1, (0 : Int32), v0.2.2.2.2.1, v0.2.2.2.2.2.1, v0.2.2.2.2.2.2.1, v0.2.2.2.2.2.2.2.1, v0.2.2.2.2.2.2.2.2.1, v0.2.2.2.2.2.2.2.2.2.1, v0.2.2.2.2.2.2.2.2.2.2.1, v0.2.2.2.2.2.2.2.2.2.2.2.1, v0.2.2.2.2.2.2.2.2.2.2.2.2.1, v0.2.2.2.2.2.2.2.2.2.2.2.2.2)]) (rest := []) (st1 := [.long o19]) ⟨hx, hb, hml, hown, hts⟩ hz hw hA (mX11_sums l D cA cR N a0 (v0.1, v0.2.1, v0.2.2.1, (0 : Int32), v0.2.2.2.2.1, v0.2.2.2.2.2.1, v0.2.2.2.2.2.2.1, v0.2.2.2.2.2.2.2.1, v0.2.2.2.2.2.2.2.2.1, v0.2.2.2.2.2.2.2.2.2.1, v0.2.2.2.2.2.2.2.2.2.2.1, v0.2.2.2.2.2.2.2.2.2.2.2.1, v0.2.2.2.2.2.2.2.2.2.2.2.2.1, v0.2.2.2.2.2.2.2.2.2.2.2.2.2) (((31 : Int64) * z83_0) + (v0.1.2 ((106 : Int32) + z83_1).toNatClampNeg).toInt64) ((138 : Int32) + ((13 : Int32) * z83_1)) (4 : Int32) o19 hso19) gX11_digest_X11_sums rfl rfl rfl (by decide +kernel) rfl ⟨Nat.le_of_ble_eq_true rfl, Nat.le_of_ble_eq_true rfl⟩ rfl rfl hl.1 rfl (Nat.le_of_ble_eq_true rfl) dX11_digest_115 ⟨Nat.le_of_ble_eq_true rfl, Nat.le_of_ble_eq_true rfl⟩ [0] [] [0] rfl rfl rfl rfl rfl rfl (fun H locs hw => ?_)
        have hw : ww A s.heap D [[(a0.1, .inr (11, [.ref a0.2.1, .ref a0.2.2.1, .int v0.2.2.1, .int (0 : Int32), .ref a0.2.2.2.1, .int v0.2.2.2.2.2.1, .int v0.2.2.2.2.2.2.1, .ref a0.2.2.2.2.1, .int v0.2.2.2.2.2.2.2.2.1, .int v0.2.2.2.2.2.2.2.2.2.1, .int v0.2.2.2.2.2.2.2.2.2.2.1, .int v0.2.2.2.2.2.2.2.2.2.2.2.1, .ref a0.2.2.2.2.2, .int v0.2.2.2.2.2.2.2.2.2.2.2.2.2]))], [(a0.2.1, .inl (cA, v0.1.1, .inl v0.1.2))], [(a0.2.2.1, .inl (cA, v0.2.1.1, .inl v0.2.1.2))], [(a0.2.2.2.1, .inl (cA, v0.2.2.2.2.1.1, .inl v0.2.2.2.2.1.2))], [(a0.2.2.2.2.1, .inl (cA, v0.2.2.2.2.2.2.2.1.1, .inl v0.2.2.2.2.2.2.2.1.2))], [(a0.2.2.2.2.2, .inl (cA, v0.2.2.2.2.2.2.2.2.2.2.2.2.1.1, .inl v0.2.2.2.2.2.2.2.2.2.2.2.2.1.2))]] H locs := hw
        refine lv_lstore_n (lv' := [(1, .long o19), (0, .ref a0.1), (3, .int z83_1)]) hx hb dX11_digest_118 rfl hl (by decide) rfl (fun ls hl => ?_)
        refine lv_ldc2 hx hb hown (hts (.constantLong RX11 35 31) (by decide +kernel)) dX11_digest_119 ?_
        refine lv_lload_n hx hb dX11_digest_122 rfl (lv_at hl 0 rfl) ?_
        refine lv_lmul hx hb dX11_digest_123 ?_
        refine lv_aload_n hx hb dX11_digest_124 rfl (lv_at hl 1 rfl) ?_
        refine lv_iload_n hx hb dX11_digest_125 rfl (lv_at hl 2 rfl) ?_
        have hw : ww A s.heap D [w11 cA a0 (v0.1, v0.2.1, v0.2.2.1, (0 : Int32), v0.2.2.2.2.1, v0.2.2.2.2.2.1, v0.2.2.2.2.2.2.1, v0.2.2.2.2.2.2.2.1, v0.2.2.2.2.2.2.2.2.1, v0.2.2.2.2.2.2.2.2.2.1, v0.2.2.2.2.2.2.2.2.2.2.1, v0.2.2.2.2.2.2.2.2.2.2.2.1, v0.2.2.2.2.2.2.2.2.2.2.2.2.1, v0.2.2.2.2.2.2.2.2.2.2.2.2.2)] H locs := hw
        obtain ⟨o20, hso20, hsp⟩ := bnd_of hsp
        refine k_callV (ci := 11) (C := RX11) (T := TX11) (N := 14) (nA := 1) (As := [.int z83_1]) (cs := [w11 cA a0 (v0.1, v0.2.1, v0.2.2.1, (0 : Int32), v0.2.2.2.2.1, v0.2.2.2.2.2.1, v0.2.2.2.2.2.2.1, v0.2.2.2.2.2.2.2.1, v0.2.2.2.2.2.2.2.2.1, v0.2.2.2.2.2.2.2.2.2.1, v0.2.2.2.2.2.2.2.2.2.2.1, v0.2.2.2.2.2.2.2.2.2.2.2.1, v0.2.2.2.2.2.2.2.2.2.2.2.2.1, v0.2.2.2.2.2.2.2.2.2.2.2.2.2)]) (rs := []) (cs1 := [w11 cA a0 (v0.1, v0.2.1, v0.2.2.1, (0 : Int32), v0.2.2.2.2.1, v0.2.2.2.2.2.1, v0.2.2.2.2.2.2.1, v0.2.2.2.2.2.2.2.1, v0.2.2.2.2.2.2.2.2.1, v0.2.2.2.2.2.2.2.2.2.1, v0.2.2.2.2.2.2.2.2.2.2.1, v0.2.2.2.2.2.2.2.2.2.2.2.1, v0.2.2.2.2.2.2.2.2.2.2.2.2.1, v0.2.2.2.2.2.2.2.2.2.2.2.2.2)]) (bs1 := [w11 cA a0 (v0.1, v0.2.1, v0.2.2.1, (0 : Int32), v0.2.2.2.2.1, v0.2.2.2.2.2.1, v0.2.2.2.2.2.2.1, v0.2.2.2.2.2.2.2.1, v0.2.2.2.2.2.2.2.2.1, v0.2.2.2.2.2.2.2.2.2.1, v0.2.2.2.2.2.2.2.2.2.2.1, v0.2.2.2.2.2.2.2.2.2.2.2.1, v0.2.2.2.2.2.2.2.2.2.2.2.2.1, v0.2.2.2.2.2.2.2.2.2.2.2.2.2)]) (rest := [.long ((31 : Int64) * o19)]) (st1 := [.int o20, .long ((31 : Int64) * o19)]) ⟨hx, hb, hml, hown, hts⟩ hz hw hA (mX11_averageOf l D cA cR N a0 (v0.1, v0.2.1, v0.2.2.1, (0 : Int32), v0.2.2.2.2.1, v0.2.2.2.2.2.1, v0.2.2.2.2.2.2.1, v0.2.2.2.2.2.2.2.1, v0.2.2.2.2.2.2.2.2.1, v0.2.2.2.2.2.2.2.2.2.1, v0.2.2.2.2.2.2.2.2.2.2.1, v0.2.2.2.2.2.2.2.2.2.2.2.1, v0.2.2.2.2.2.2.2.2.2.2.2.2.1, v0.2.2.2.2.2.2.2.2.2.2.2.2.2) z83_1 o20 hso20) gX11_digest_X11_averageOf rfl rfl rfl (by decide +kernel) rfl ⟨Nat.le_of_ble_eq_true rfl, Nat.le_of_ble_eq_true rfl⟩ rfl rfl hl.1 rfl (Nat.le_of_ble_eq_true rfl) dX11_digest_126 ⟨Nat.le_of_ble_eq_true rfl, Nat.le_of_ble_eq_true rfl⟩ [0] [] [0] rfl rfl rfl rfl rfl rfl (fun H locs hw => ?_)
        have hw : ww A s.heap D [[(a0.1, .inr (11, [.ref a0.2.1, .ref a0.2.2.1, .int v0.2.2.1, .int (0 : Int32), .ref a0.2.2.2.1, .int v0.2.2.2.2.2.1, .int v0.2.2.2.2.2.2.1, .ref a0.2.2.2.2.1, .int v0.2.2.2.2.2.2.2.2.1, .int v0.2.2.2.2.2.2.2.2.2.1, .int v0.2.2.2.2.2.2.2.2.2.2.1, .int v0.2.2.2.2.2.2.2.2.2.2.2.1, .ref a0.2.2.2.2.2, .int v0.2.2.2.2.2.2.2.2.2.2.2.2.2]))], [(a0.2.1, .inl (cA, v0.1.1, .inl v0.1.2))], [(a0.2.2.1, .inl (cA, v0.2.1.1, .inl v0.2.1.2))], [(a0.2.2.2.1, .inl (cA, v0.2.2.2.2.1.1, .inl v0.2.2.2.2.1.2))], [(a0.2.2.2.2.1, .inl (cA, v0.2.2.2.2.2.2.2.1.1, .inl v0.2.2.2.2.2.2.2.1.2))], [(a0.2.2.2.2.2, .inl (cA, v0.2.2.2.2.2.2.2.2.2.2.2.2.1.1, .inl v0.2.2.2.2.2.2.2.2.2.2.2.2.1.2))]] H locs := hw
        refine lv_i2l hx hb dX11_digest_129 rfl ?_
        refine lv_ladd hx hb dX11_digest_130 ?_
        refine lv_lstore_n (lv' := [(1, .long (((31 : Int64) * o19) + o20.toInt64)), (0, .ref a0.1), (3, .int z83_1)]) hx hb dX11_digest_131 rfl hl (by decide) rfl (fun ls hl => ?_)
        refine lv_iinc (v := (z83_1 + 1)) (lv' := [(3, .int (z83_1 + 1)), (1, .long (((31 : Int64) * o19) + o20.toInt64)), (0, .ref a0.1)]) hx hb dX11_digest_132 hl (k := 2) rfl rfl (by decide) rfl (fun ls hl => ?_)
        refine lv_goto (tgt := 83) hx hb dX11_digest_135 (by decide) ?_
        exact ih83 (((31 : Int64) * o19) + o20.toInt64) (z83_1 + 1) _ hsp _ _ _ hw (lv_sub hl [2, 1, 0] rfl) kx83_138
  obtain ⟨o16, hso16, hsp⟩ := bnd_of hsp
  refine L83 N (((31 : Int64) * o6) + o7.toInt64) (0 : Int32) _ hso16 _ _ _ hw (lv_sub hl [2, 1, 0] rfl) (fun y138 hy138 H locs ls hw hl => ?_)
  cases hy138
  refine lv_ldc2 hx hb hown (hts (.constantLong RX11 35 31) (by decide +kernel)) dX11_digest_138 ?_
  refine lv_lload_n hx hb dX11_digest_141 rfl (lv_at hl 1 rfl) ?_
  refine lv_lmul hx hb dX11_digest_142 ?_
  refine lv_aload_n hx hb dX11_digest_143 rfl (lv_at hl 0 rfl) ?_
  refine k_get (ci := 11) (v := .ref a0.2.1) (C := RX11) (T := TX11) (N := 14) hx hb hts hown hz hw (by decide +kernel) 0 rfl rfl 0 (by decide) (hts (.fieldLink RX11 7 "OccupancyMonitorModel" "all" "[I") (by decide +kernel)) (fun _ h9 => h9) rfl dX11_digest_144 ?_
  refine lv_bipush (v := 9) hx hb dX11_digest_147 (by decide) ?_
  obtain ⟨g21, hsp⟩ := grd_of hsp
  refine k_iald hx hb hz hw 1 rfl g21 dX11_digest_149 ?_
  refine lv_i2l hx hb dX11_digest_150 rfl ?_
  refine lv_ladd hx hb dX11_digest_151 ?_
  refine lv_lstore_n (lv' := [(1, .long (((31 : Int64) * o16.1) + (v0.1.2 (9 : Int32).toNatClampNeg).toInt64)), (0, .ref a0.1), (3, .int o16.2)]) hx hb dX11_digest_152 rfl hl (by decide) rfl (fun ls hl => ?_)
  refine lv_aload_n hx hb dX11_digest_153 rfl (lv_at hl 1 rfl) ?_
  have hw : ww A s.heap D [w11 cA a0 (v0.1, v0.2.1, v0.2.2.1, (0 : Int32), v0.2.2.2.2.1, v0.2.2.2.2.2.1, v0.2.2.2.2.2.2.1, v0.2.2.2.2.2.2.2.1, v0.2.2.2.2.2.2.2.2.1, v0.2.2.2.2.2.2.2.2.2.1, v0.2.2.2.2.2.2.2.2.2.2.1, v0.2.2.2.2.2.2.2.2.2.2.2.1, v0.2.2.2.2.2.2.2.2.2.2.2.2.1, v0.2.2.2.2.2.2.2.2.2.2.2.2.2)] H locs := hw
  obtain ⟨o22, hso22, hsp⟩ := bnd_of hsp
  refine k_callV (ci := 11) (C := RX11) (T := TX11) (N := 14) (nA := 0) (As := []) (cs := [w11 cA a0 (v0.1, v0.2.1, v0.2.2.1, (0 : Int32), v0.2.2.2.2.1, v0.2.2.2.2.2.1, v0.2.2.2.2.2.2.1, v0.2.2.2.2.2.2.2.1, v0.2.2.2.2.2.2.2.2.1, v0.2.2.2.2.2.2.2.2.2.1, v0.2.2.2.2.2.2.2.2.2.2.1, v0.2.2.2.2.2.2.2.2.2.2.2.1, v0.2.2.2.2.2.2.2.2.2.2.2.2.1, v0.2.2.2.2.2.2.2.2.2.2.2.2.2)]) (rs := []) (cs1 := [w11 cA a0 o22]) (bs1 := [w11 cA a0 o22]) (rest := []) (st1 := []) ⟨hx, hb, hml, hown, hts⟩ hz hw hA (mX11_laysChains l D cA cR N a0 (v0.1, v0.2.1, v0.2.2.1, (0 : Int32), v0.2.2.2.2.1, v0.2.2.2.2.2.1, v0.2.2.2.2.2.2.1, v0.2.2.2.2.2.2.2.1, v0.2.2.2.2.2.2.2.2.1, v0.2.2.2.2.2.2.2.2.2.1, v0.2.2.2.2.2.2.2.2.2.2.1, v0.2.2.2.2.2.2.2.2.2.2.2.1, v0.2.2.2.2.2.2.2.2.2.2.2.2.1, v0.2.2.2.2.2.2.2.2.2.2.2.2.2) o22 hso22) gX11_digest_X11_laysChains rfl rfl rfl (by decide +kernel) rfl ⟨Nat.le_of_ble_eq_true rfl, Nat.le_of_ble_eq_true rfl⟩ rfl rfl hl.1 rfl (Nat.le_of_ble_eq_true rfl) dX11_digest_154 ⟨Nat.le_of_ble_eq_true rfl, Nat.le_of_ble_eq_true rfl⟩ [0] [] [0] rfl rfl rfl rfl rfl rfl (fun H locs hw => ?_)
  have hw : ww A s.heap D [[(a0.1, .inr (11, [.ref a0.2.1, .ref a0.2.2.1, .int o22.2.2.1, .int o22.2.2.2.1, .ref a0.2.2.2.1, .int o22.2.2.2.2.2.1, .int o22.2.2.2.2.2.2.1, .ref a0.2.2.2.2.1, .int o22.2.2.2.2.2.2.2.2.1, .int o22.2.2.2.2.2.2.2.2.2.1, .int o22.2.2.2.2.2.2.2.2.2.2.1, .int o22.2.2.2.2.2.2.2.2.2.2.2.1, .ref a0.2.2.2.2.2, .int o22.2.2.2.2.2.2.2.2.2.2.2.2.2]))], [(a0.2.1, .inl (cA, o22.1.1, .inl o22.1.2))], [(a0.2.2.1, .inl (cA, o22.2.1.1, .inl o22.2.1.2))], [(a0.2.2.2.1, .inl (cA, o22.2.2.2.2.1.1, .inl o22.2.2.2.2.1.2))], [(a0.2.2.2.2.1, .inl (cA, o22.2.2.2.2.2.2.2.1.1, .inl o22.2.2.2.2.2.2.2.1.2))], [(a0.2.2.2.2.2, .inl (cA, o22.2.2.2.2.2.2.2.2.2.2.2.2.1.1, .inl o22.2.2.2.2.2.2.2.2.2.2.2.2.1.2))]] H locs := hw
  refine lv_iconst (v := 0) hx hb dX11_digest_157 (by decide) ?_
  refine lv_istore_n (lv' := [(3, .int (0 : Int32)), (1, .long (((31 : Int64) * o16.1) + (v0.1.2 (9 : Int32).toNatClampNeg).toInt64)), (0, .ref a0.1)]) hx hb dX11_digest_158 rfl hl (by decide) rfl (fun ls hl => ?_)
  have L159 : ∀ (n159 : Nat) (z159_0 : Int64) (z159_1 : Int32) (o42 : Int64 × Int32), qX11_digest_159 N o22 n159 z159_0 z159_1 = some o42 → ∀ (H : Heap) (locs : List Loc) (ls : Array Slot), ww A s.heap D [[(a0.1, .inr (11, [.ref a0.2.1, .ref a0.2.2.1, .int o22.2.2.1, .int o22.2.2.2.1, .ref a0.2.2.2.1, .int o22.2.2.2.2.2.1, .int o22.2.2.2.2.2.2.1, .ref a0.2.2.2.2.1, .int o22.2.2.2.2.2.2.2.2.1, .int o22.2.2.2.2.2.2.2.2.2.1, .int o22.2.2.2.2.2.2.2.2.2.2.1, .int o22.2.2.2.2.2.2.2.2.2.2.2.1, .ref a0.2.2.2.2.2, .int o22.2.2.2.2.2.2.2.2.2.2.2.2.2]))], [(a0.2.1, .inl (cA, o22.1.1, .inl o22.1.2))], [(a0.2.2.1, .inl (cA, o22.2.1.1, .inl o22.2.1.2))], [(a0.2.2.2.1, .inl (cA, o22.2.2.2.2.1.1, .inl o22.2.2.2.2.1.2))], [(a0.2.2.2.2.1, .inl (cA, o22.2.2.2.2.2.2.2.1.1, .inl o22.2.2.2.2.2.2.2.1.2))], [(a0.2.2.2.2.2, .inl (cA, o22.2.2.2.2.2.2.2.2.2.2.2.2.1.1, .inl o22.2.2.2.2.2.2.2.2.2.2.2.2.1.2))]] H locs → lv_has ls 5 [(0, .ref a0.1), (1, .long z159_0), (3, .int z159_1)] → (∀ (y207 : Int64 × Int32), o42 = y207 → ∀ (H : Heap) (locs : List Loc) (ls : Array Slot), ww A s.heap D [[(a0.1, .inr (11, [.ref a0.2.1, .ref a0.2.2.1, .int o22.2.2.1, .int o22.2.2.2.1, .ref a0.2.2.2.1, .int o22.2.2.2.2.2.1, .int o22.2.2.2.2.2.2.1, .ref a0.2.2.2.2.1, .int o22.2.2.2.2.2.2.2.2.1, .int o22.2.2.2.2.2.2.2.2.2.1, .int o22.2.2.2.2.2.2.2.2.2.2.1, .int o22.2.2.2.2.2.2.2.2.2.2.2.1, .ref a0.2.2.2.2.2, .int o22.2.2.2.2.2.2.2.2.2.2.2.2.2]))], [(a0.2.1, .inl (cA, o22.1.1, .inl o22.1.2))], [(a0.2.2.1, .inl (cA, o22.2.1.1, .inl o22.2.1.2))], [(a0.2.2.2.1, .inl (cA, o22.2.2.2.2.1.1, .inl o22.2.2.2.2.1.2))], [(a0.2.2.2.2.1, .inl (cA, o22.2.2.2.2.2.2.2.1.1, .inl o22.2.2.2.2.2.2.2.1.2))], [(a0.2.2.2.2.2, .inl (cA, o22.2.2.2.2.2.2.2.2.2.2.2.2.1.1, .inl o22.2.2.2.2.2.2.2.2.2.2.2.2.1.2))]] H locs → lv_has ls 5 [(0, .ref a0.1), (1, .long y207.1), (3, .int y207.2)] → W p l e rX11_digest s m args below meth c H locs 0 0 Q (F0 m 207 ls [])) → W p l e rX11_digest s m args below meth c H locs 0 0 Q (F0 m 159 ls []) := by
    intro n159
    induction n159 with
    | zero => intro z159_0 z159_1 o42 hsp; cases hsp
    | succ n159 ih159 =>
      intro z159_0 z159_1 o42 hsp H locs ls hw hl kx159_207
      have hsp : (grd (vp_in (9 : Int32) o22.1.1) (if (o22.1.2 (9 : Int32).toNatClampNeg) ≤ z159_1 then (some (z159_0, z159_1)) else ((qX11_digest_173 N o22 z159_1 N z159_0 (0 : Int32)).bind (fun o49 => (qX11_digest_159 N o22 n159 o49.1 (z159_1 + 1)))))) = some o42 := hsp
      refine lv_iload_n hx hb dX11_digest_159 rfl (lv_at hl 2 rfl) ?_
      refine lv_aload_n hx hb dX11_digest_160 rfl (lv_at hl 0 rfl) ?_
      refine k_get (ci := 11) (v := .ref a0.2.1) (C := RX11) (T := TX11) (N := 14) hx hb hts hown hz hw (by decide +kernel) 0 rfl rfl 0 (by decide) (hts (.fieldLink RX11 7 "OccupancyMonitorModel" "all" "[I") (by decide +kernel)) (fun _ h9 => h9) rfl dX11_digest_161 ?_
      refine lv_bipush (v := 9) hx hb dX11_digest_164 (by decide) ?_
      obtain ⟨g43, hsp⟩ := grd_of hsp
      refine k_iald hx hb hz hw 1 rfl g43 dX11_digest_166 ?_
      refine lv_icmp_ge (tgt := 207) hx hb dX11_digest_167 (by decide) (fun c44 => ?_) (fun c44 => ?_)
      · have hsp := ift c44 hsp
        have hsp := Option.some.inj hsp
        subst hsp
        exact kx159_207 _ rfl _ _ _ hw (lv_sub hl [0, 1, 2] rfl)
      · have hsp := iff_ c44 hsp
        refine lv_iconst (v := 0) hx hb dX11_digest_170 (by decide) ?_
        refine lv_istore (lv' := [(4, .int (0 : Int32)), (0, .ref a0.1), (1, .long z159_0), (3, .int z159_1)]) hx hb dX11_digest_171 hl (by decide) rfl (fun ls hl => ?_)
        have L173 : ∀ (n173 : Nat) (z173_0 : Int64) (z173_1 : Int32) (o49 : Int64 × Int32), qX11_digest_173 N o22 z159_1 n173 z173_0 z173_1 = some o49 → ∀ (H : Heap) (locs : List Loc) (ls : Array Slot), ww A s.heap D [[(a0.1, .inr (11, [.ref a0.2.1, .ref a0.2.2.1, .int o22.2.2.1, .int o22.2.2.2.1, .ref a0.2.2.2.1, .int o22.2.2.2.2.2.1, .int o22.2.2.2.2.2.2.1, .ref a0.2.2.2.2.1, .int o22.2.2.2.2.2.2.2.2.1, .int o22.2.2.2.2.2.2.2.2.2.1, .int o22.2.2.2.2.2.2.2.2.2.2.1, .int o22.2.2.2.2.2.2.2.2.2.2.2.1, .ref a0.2.2.2.2.2, .int o22.2.2.2.2.2.2.2.2.2.2.2.2.2]))], [(a0.2.1, .inl (cA, o22.1.1, .inl o22.1.2))], [(a0.2.2.1, .inl (cA, o22.2.1.1, .inl o22.2.1.2))], [(a0.2.2.2.1, .inl (cA, o22.2.2.2.2.1.1, .inl o22.2.2.2.2.1.2))], [(a0.2.2.2.2.1, .inl (cA, o22.2.2.2.2.2.2.2.1.1, .inl o22.2.2.2.2.2.2.2.1.2))], [(a0.2.2.2.2.2, .inl (cA, o22.2.2.2.2.2.2.2.2.2.2.2.2.1.1, .inl o22.2.2.2.2.2.2.2.2.2.2.2.2.1.2))]] H locs → lv_has ls 5 [(0, .ref a0.1), (1, .long z173_0), (3, .int z159_1), (4, .int z173_1)] → (∀ (y201 : Int64 × Int32), o49 = y201 → ∀ (H : Heap) (locs : List Loc) (ls : Array Slot), ww A s.heap D [[(a0.1, .inr (11, [.ref a0.2.1, .ref a0.2.2.1, .int o22.2.2.1, .int o22.2.2.2.1, .ref a0.2.2.2.1, .int o22.2.2.2.2.2.1, .int o22.2.2.2.2.2.2.1, .ref a0.2.2.2.2.1, .int o22.2.2.2.2.2.2.2.2.1, .int o22.2.2.2.2.2.2.2.2.2.1, .int o22.2.2.2.2.2.2.2.2.2.2.1, .int o22.2.2.2.2.2.2.2.2.2.2.2.1, .ref a0.2.2.2.2.2, .int o22.2.2.2.2.2.2.2.2.2.2.2.2.2]))], [(a0.2.1, .inl (cA, o22.1.1, .inl o22.1.2))], [(a0.2.2.1, .inl (cA, o22.2.1.1, .inl o22.2.1.2))], [(a0.2.2.2.1, .inl (cA, o22.2.2.2.2.1.1, .inl o22.2.2.2.2.1.2))], [(a0.2.2.2.2.1, .inl (cA, o22.2.2.2.2.2.2.2.1.1, .inl o22.2.2.2.2.2.2.2.1.2))], [(a0.2.2.2.2.2, .inl (cA, o22.2.2.2.2.2.2.2.2.2.2.2.2.1.1, .inl o22.2.2.2.2.2.2.2.2.2.2.2.2.1.2))]] H locs → lv_has ls 5 [(0, .ref a0.1), (1, .long y201.1), (3, .int z159_1), (4, .int y201.2)] → W p l e rX11_digest s m args below meth c H locs 0 0 Q (F0 m 201 ls [])) → W p l e rX11_digest s m args below meth c H locs 0 0 Q (F0 m 173 ls []) := by
          intro n173
          induction n173 with
          | zero => intro z173_0 z173_1 o49 hsp; cases hsp
          | succ n173 ih173 =>
            intro z173_0 z173_1 o49 hsp H locs ls hw hl kx173_201
            have hsp : (if (7 : Int32) ≤ z173_1 then (some (z173_0, z173_1)) else ((sX11_eventNow N o22 z159_1 z173_1).bind (fun o51 => (qX11_digest_173 N o22 z159_1 n173 (((31 : Int64) * z173_0) + o51.toInt64) (z173_1 + 1))))) = some o49 := hsp
            refine lv_iload hx hb dX11_digest_173 (lv_at hl 3 rfl) ?_
            refine lv_bipush (v := 7) hx hb dX11_digest_175 (by decide) ?_
            refine lv_icmp_ge (tgt := 201) hx hb dX11_digest_177 (by decide) (fun c50 => ?_) (fun c50 => ?_)
            · have hsp := ift c50 hsp
              have hsp := Option.some.inj hsp
              subst hsp
              exact kx173_201 _ rfl _ _ _ hw (lv_sub hl [0, 1, 2, 3] rfl)
            · have hsp := iff_ c50 hsp
              refine lv_ldc2 hx hb hown (hts (.constantLong RX11 35 31) (by decide +kernel)) dX11_digest_180 ?_
              refine lv_lload_n hx hb dX11_digest_183 rfl (lv_at hl 1 rfl) ?_
              refine lv_lmul hx hb dX11_digest_184 ?_
              refine lv_aload_n hx hb dX11_digest_185 rfl (lv_at hl 0 rfl) ?_
              refine lv_iload_n hx hb dX11_digest_186 rfl (lv_at hl 2 rfl) ?_
              refine lv_iload hx hb dX11_digest_187 (lv_at hl 3 rfl) ?_
              have hw : ww A s.heap D [w11 cA a0 o22] H locs := hw
              obtain ⟨o51, hso51, hsp⟩ := bnd_of hsp
              refine k_callV (ci := 11) (C := RX11) (T := TX11) (N := 14) (nA := 2) (As := [.int z159_1, .int z173_1]) (cs := [w11 cA a0 o22]) (rs := []) (cs1 := [w11 cA a0 o22]) (bs1 := [w11 cA a0 o22]) (rest := [.long ((31 : Int64) * z173_0)]) (st1 := [.int o51, .long ((31 : Int64) * z173_0)]) ⟨hx, hb, hml, hown, hts⟩ hz hw hA (mX11_eventNow l D cA cR N a0 o22 z159_1 z173_1 o51 hso51) gX11_digest_X11_eventNow rfl rfl rfl (by decide +kernel) rfl ⟨Nat.le_of_ble_eq_true rfl, Nat.le_of_ble_eq_true rfl⟩ rfl rfl hl.1 rfl (Nat.le_of_ble_eq_true rfl) dX11_digest_189 ⟨Nat.le_of_ble_eq_true rfl, Nat.le_of_ble_eq_true rfl⟩ [0] [] [0] rfl rfl rfl rfl rfl rfl (fun H locs hw => ?_)
              have hw : ww A s.heap D [[(a0.1, .inr (11, [.ref a0.2.1, .ref a0.2.2.1, .int o22.2.2.1, .int o22.2.2.2.1, .ref a0.2.2.2.1, .int o22.2.2.2.2.2.1, .int o22.2.2.2.2.2.2.1, .ref a0.2.2.2.2.1, .int o22.2.2.2.2.2.2.2.2.1, .int o22.2.2.2.2.2.2.2.2.2.1, .int o22.2.2.2.2.2.2.2.2.2.2.1, .int o22.2.2.2.2.2.2.2.2.2.2.2.1, .ref a0.2.2.2.2.2, .int o22.2.2.2.2.2.2.2.2.2.2.2.2.2]))], [(a0.2.1, .inl (cA, o22.1.1, .inl o22.1.2))], [(a0.2.2.1, .inl (cA, o22.2.1.1, .inl o22.2.1.2))], [(a0.2.2.2.1, .inl (cA, o22.2.2.2.2.1.1, .inl o22.2.2.2.2.1.2))], [(a0.2.2.2.2.1, .inl (cA, o22.2.2.2.2.2.2.2.1.1, .inl o22.2.2.2.2.2.2.2.1.2))], [(a0.2.2.2.2.2, .inl (cA, o22.2.2.2.2.2.2.2.2.2.2.2.2.1.1, .inl o22.2.2.2.2.2.2.2.2.2.2.2.2.1.2))]] H locs := hw
              refine lv_i2l hx hb dX11_digest_192 rfl ?_
              refine lv_ladd hx hb dX11_digest_193 ?_
              refine lv_lstore_n (lv' := [(1, .long (((31 : Int64) * z173_0) + o51.toInt64)), (0, .ref a0.1), (3, .int z159_1), (4, .int z173_1)]) hx hb dX11_digest_194 rfl hl (by decide) rfl (fun ls hl => ?_)
              refine lv_iinc (v := (z173_1 + 1)) (lv' := [(4, .int (z173_1 + 1)), (1, .long (((31 : Int64) * z173_0) + o51.toInt64)), (0, .ref a0.1), (3, .int z159_1)]) hx hb dX11_digest_195 hl (k := 3) rfl rfl (by decide) rfl (fun ls hl => ?_)
              refine lv_goto (tgt := 173) hx hb dX11_digest_198 (by decide) ?_
              exact ih173 (((31 : Int64) * z173_0) + o51.toInt64) (z173_1 + 1) _ hsp _ _ _ hw (lv_sub hl [2, 1, 3, 0] rfl) kx173_201
        obtain ⟨o49, hso49, hsp⟩ := bnd_of hsp
        refine L173 N z159_0 (0 : Int32) _ hso49 _ _ _ hw (lv_sub hl [1, 2, 3, 0] rfl) (fun y201 hy201 H locs ls hw hl => ?_)
        cases hy201
        refine lv_iinc (v := (z159_1 + 1)) (lv' := [(3, .int (z159_1 + 1)), (0, .ref a0.1), (1, .long o49.1), (4, .int o49.2)]) hx hb dX11_digest_201 hl (k := 2) rfl rfl (by decide) rfl (fun ls hl => ?_)
        refine lv_goto (tgt := 159) hx hb dX11_digest_204 (by decide) ?_
        exact ih159 o49.1 (z159_1 + 1) _ hsp _ _ _ hw (lv_sub hl [1, 2, 0] rfl) kx159_207
  obtain ⟨o42, hso42, hsp⟩ := bnd_of hsp
  refine L159 N (((31 : Int64) * o16.1) + (v0.1.2 (9 : Int32).toNatClampNeg).toInt64) (0 : Int32) _ hso42 _ _ _ hw (lv_sub hl [2, 1, 0] rfl) (fun y207 hy207 H locs ls hw hl => ?_)
  cases hy207
  refine lv_ldc2 hx hb hown (hts (.constantLong RX11 35 31) (by decide +kernel)) dX11_digest_207 ?_
  refine lv_lload_n hx hb dX11_digest_210 rfl (lv_at hl 1 rfl) ?_
  refine lv_lmul hx hb dX11_digest_211 ?_
  refine lv_aload_n hx hb dX11_digest_212 rfl (lv_at hl 0 rfl) ?_
  refine k_get (ci := 11) (v := .int o22.2.2.1) (C := RX11) (T := TX11) (N := 14) hx hb hts hown hz hw (by decide +kernel) 0 rfl rfl 2 (by decide) (hts (.fieldLink RX11 32 "OccupancyMonitorModel" "savedMany" "I") (by decide +kernel)) (fun _ h9 => h9) rfl dX11_digest_213 ?_
  refine lv_i2l hx hb dX11_digest_216 rfl ?_
  refine lv_ladd hx hb dX11_digest_217 ?_
  have hsp := Option.some.inj hsp
  subst hsp
  have hw : ww A s.heap D [w11 cA a0 o22] H locs := hw
  subst hQ
  exact k_lret hx hb hr hlk hw dX11_digest_218
