noncomputable def qX11_parsePlan_19 (N : Nat) : Nat → Nat → (Nat → Int32) → Nat → (Nat → Int32) → Int32 → Int32 → Nat → (Nat → Int32) → Int32 → Int32 → Nat → (Nat → Int32) → Int32 → Int32 → Int32 → Int32 → Nat → (Nat → Int32) → Int32 → Option ((Nat × (Nat → Int32) × Nat × (Nat → Int32) × Int32 × Int32 × Nat × (Nat → Int32) × Int32 × Int32 × Nat × (Nat → Int32) × Int32 × Int32 × Int32 × Int32 × Nat × (Nat → Int32) × Int32) ⊕ (Nat × (Nat → Int32) × Nat × (Nat → Int32) × Int32 × Int32 × Nat × (Nat → Int32) × Int32 × Int32 × Nat × (Nat → Int32) × Int32 × Int32 × Int32 × Int32 × Nat × (Nat → Int32) × Int32))
  | 0, _, _, _, _, _, _, _, _, _, _, _, _, _, _, _, _, _, _, _ => none
  | n19 + 1, z19_0, z19_1, z19_2, z19_3, z19_4, z19_5, z19_6, z19_7, z19_8, z19_9, z19_10, z19_11, z19_12, z19_13, z19_14, z19_15, z19_16, z19_17, z19_18 => (if z19_8 ≤ z19_9 then (some (.inr (z19_0, z19_1, z19_2, z19_3, z19_4, z19_5, z19_6, z19_7, z19_8, z19_9, z19_10, z19_11, z19_12, z19_13, z19_14, z19_15, z19_16, z19_17, z19_18))) else ((sX11_readsStep N ((z19_0, z19_1), (z19_2, z19_3), z19_4, z19_5, (z19_6, z19_7), z19_8, z19_9, (z19_10, z19_11), z19_12, z19_13, z19_14, z19_15, (z19_16, z19_17), z19_18)).bind (fun o12 => (if o12.1 = 0 then (some (.inl (o12.2.1.1, o12.2.1.2, o12.2.2.1.1, o12.2.2.1.2, o12.2.2.2.1, o12.2.2.2.2.1, o12.2.2.2.2.2.1.1, o12.2.2.2.2.2.1.2, o12.2.2.2.2.2.2.1, o12.2.2.2.2.2.2.2.1, o12.2.2.2.2.2.2.2.2.1.1, o12.2.2.2.2.2.2.2.2.1.2, o12.2.2.2.2.2.2.2.2.2.1, o12.2.2.2.2.2.2.2.2.2.2.1, o12.2.2.2.2.2.2.2.2.2.2.2.1, o12.2.2.2.2.2.2.2.2.2.2.2.2.1, o12.2.2.2.2.2.2.2.2.2.2.2.2.2.1.1, o12.2.2.2.2.2.2.2.2.2.2.2.2.2.1.2, o12.2.2.2.2.2.2.2.2.2.2.2.2.2.2))) else ((sX11_skips N o12.2).bind (fun o14 => (qX11_parsePlan_19 N n19 o14.1.1 o14.1.2 o14.2.1.1 o14.2.1.2 o14.2.2.1 o14.2.2.2.1 o14.2.2.2.2.1.1 o14.2.2.2.2.1.2 o14.2.2.2.2.2.1 o14.2.2.2.2.2.2.1 o14.2.2.2.2.2.2.2.1.1 o14.2.2.2.2.2.2.2.1.2 o14.2.2.2.2.2.2.2.2.1 o14.2.2.2.2.2.2.2.2.2.1 o14.2.2.2.2.2.2.2.2.2.2.1 o14.2.2.2.2.2.2.2.2.2.2.2.1 o14.2.2.2.2.2.2.2.2.2.2.2.2.1.1 o14.2.2.2.2.2.2.2.2.2.2.2.2.1.2 o14.2.2.2.2.2.2.2.2.2.2.2.2.2)))))))
noncomputable def qX11_parsePlan_58 (o15 : V11) : Nat → Int32 → (Nat → Int32) → Option (Int32 × (Nat → Int32))
  | 0, _, _ => none
  | n58 + 1, z58_0, z58_1 => (if ((3 : Int32) * o15.2.2.2.2.2.2.2.2.1) ≤ z58_0 then (some (z58_0, z58_1)) else (grd (vp_in z58_0 o15.2.2.2.2.2.2.2.1.1) (grd (vp_in ((70 : Int32) + z58_0) o15.1.1) (lt_ (upd z58_1 ((70 : Int32) + z58_0).toNatClampNeg (o15.2.2.2.2.2.2.2.1.2 z58_0.toNatClampNeg)) (fun f28 => (qX11_parsePlan_58 o15 n58 (z58_0 + 1) f28))))))
noncomputable def sX11_parsePlan (N : Nat) (v0 : V11) : Option (Int32 × V11) := ((sX11_skips N (v0.1, v0.2.1, v0.2.2.1, (0 : Int32), v0.2.2.2.2.1, v0.2.2.2.2.2.1, (0 : Int32), v0.2.2.2.2.2.2.2.1, (0 : Int32), v0.2.2.2.2.2.2.2.2.2.1, v0.2.2.2.2.2.2.2.2.2.2.1, v0.2.2.2.2.2.2.2.2.2.2.2.1, v0.2.2.2.2.2.2.2.2.2.2.2.2.1, v0.2.2.2.2.2.2.2.2.2.2.2.2.2)).bind (fun o1 => ((qX11_parsePlan_19 N N o1.1.1 o1.1.2 o1.2.1.1 o1.2.1.2 o1.2.2.1 o1.2.2.2.1 o1.2.2.2.2.1.1 o1.2.2.2.2.1.2 o1.2.2.2.2.2.1 o1.2.2.2.2.2.2.1 o1.2.2.2.2.2.2.2.1.1 o1.2.2.2.2.2.2.2.1.2 o1.2.2.2.2.2.2.2.2.1 o1.2.2.2.2.2.2.2.2.2.1 o1.2.2.2.2.2.2.2.2.2.2.1 o1.2.2.2.2.2.2.2.2.2.2.2.1 o1.2.2.2.2.2.2.2.2.2.2.2.2.1.1 o1.2.2.2.2.2.2.2.2.2.2.2.2.1.2 o1.2.2.2.2.2.2.2.2.2.2.2.2.2).bind (fun o10 => eli o10 (fun y37 => (some (((-10 : Int32) - y37.2.2.2.2.2.2.2.2.2.1), ((y37.1, y37.2.1), (y37.2.2.1, y37.2.2.2.1), y37.2.2.2.2.1, y37.2.2.2.2.2.1, (y37.2.2.2.2.2.2.1, y37.2.2.2.2.2.2.2.1), y37.2.2.2.2.2.2.2.2.1, y37.2.2.2.2.2.2.2.2.2.1, (y37.2.2.2.2.2.2.2.2.2.2.1, y37.2.2.2.2.2.2.2.2.2.2.2.1), y37.2.2.2.2.2.2.2.2.2.2.2.2.1, y37.2.2.2.2.2.2.2.2.2.2.2.2.2.1, y37.2.2.2.2.2.2.2.2.2.2.2.2.2.2.1, y37.2.2.2.2.2.2.2.2.2.2.2.2.2.2.2.1, (y37.2.2.2.2.2.2.2.2.2.2.2.2.2.2.2.2.1, y37.2.2.2.2.2.2.2.2.2.2.2.2.2.2.2.2.2.1), y37.2.2.2.2.2.2.2.2.2.2.2.2.2.2.2.2.2.2)))) (fun y52 => ((sX11_save N ((y52.1, y52.2.1), (y52.2.2.1, y52.2.2.2.1), y52.2.2.2.2.1, y52.2.2.2.2.2.1, (y52.2.2.2.2.2.2.1, y52.2.2.2.2.2.2.2.1), y52.2.2.2.2.2.2.2.2.1, y52.2.2.2.2.2.2.2.2.2.1, (y52.2.2.2.2.2.2.2.2.2.2.1, y52.2.2.2.2.2.2.2.2.2.2.2.1), y52.2.2.2.2.2.2.2.2.2.2.2.2.1, y52.2.2.2.2.2.2.2.2.2.2.2.2.2.1, y52.2.2.2.2.2.2.2.2.2.2.2.2.2.2.1, y52.2.2.2.2.2.2.2.2.2.2.2.2.2.2.2.1, (y52.2.2.2.2.2.2.2.2.2.2.2.2.2.2.2.2.1, y52.2.2.2.2.2.2.2.2.2.2.2.2.2.2.2.2.2.1), y52.2.2.2.2.2.2.2.2.2.2.2.2.2.2.2.2.2.2)).bind (fun o15 => ((qX11_parsePlan_58 o15 N (0 : Int32) o15.1.2).bind (fun o24 => (grd (vp_in (6 : Int32) o15.1.1) (lt_ (upd o24.2 (6 : Int32).toNatClampNeg o15.2.2.2.2.2.2.2.2.1) (fun f30 => (grd (vp_in (7 : Int32) o15.1.1) (lt_ (upd f30 (7 : Int32).toNatClampNeg (0 : Int32)) (fun f32 => (grd (vp_in (8 : Int32) o15.1.1) (lt_ (upd f32 (8 : Int32).toNatClampNeg (0 : Int32)) (fun f34 => (some (o15.2.2.2.2.2.2.2.2.1, ((o15.1.1, f34), o15.2.1, o15.2.2.1, o15.2.2.2.1, o15.2.2.2.2.1, o15.2.2.2.2.2.1, o15.2.2.2.2.2.2.1, o15.2.2.2.2.2.2.2.1, o15.2.2.2.2.2.2.2.2.1, o15.2.2.2.2.2.2.2.2.2.1, o15.2.2.2.2.2.2.2.2.2.2.1, o15.2.2.2.2.2.2.2.2.2.2.2.1, o15.2.2.2.2.2.2.2.2.2.2.2.2.1, o15.2.2.2.2.2.2.2.2.2.2.2.2.2)))))))))))))))))))))
abbrev rX11_parsePlan : Room := { frames := 4, cells := 0, slots := 0, locals := 92 }
set_option maxHeartbeats 4000000 in
set_option maxRecDepth 100000 in
theorem mX11_parsePlan (l : Launch) (D : va_G) (cA cR : ClassId) (N : Nat) (a0 : A11) (v0 : V11) (o : Int32 × V11) (hsp : sX11_parsePlan N v0 = some o) : MI l yX11_parsePlan wsX11_parsePlan rX11_parsePlan D cA cR [.ref a0.1] [w11 cA a0 v0] (some (.int o.1)) [w11 cA a0 o.2] 0 0 := by
  have hsp : ((sX11_skips N (v0.1, v0.2.1, v0.2.2.1, (0 : Int32), v0.2.2.2.2.1, v0.2.2.2.2.2.1, (0 : Int32), v0.2.2.2.2.2.2.2.1, (0 : Int32), v0.2.2.2.2.2.2.2.2.2.1, v0.2.2.2.2.2.2.2.2.2.2.1, v0.2.2.2.2.2.2.2.2.2.2.2.1, v0.2.2.2.2.2.2.2.2.2.2.2.2.1, v0.2.2.2.2.2.2.2.2.2.2.2.2.2)).bind (fun o1 => ((qX11_parsePlan_19 N N o1.1.1 o1.1.2 o1.2.1.1 o1.2.1.2 o1.2.2.1 o1.2.2.2.1 o1.2.2.2.2.1.1 o1.2.2.2.2.1.2 o1.2.2.2.2.2.1 o1.2.2.2.2.2.2.1 o1.2.2.2.2.2.2.2.1.1 o1.2.2.2.2.2.2.2.1.2 o1.2.2.2.2.2.2.2.2.1 o1.2.2.2.2.2.2.2.2.2.1 o1.2.2.2.2.2.2.2.2.2.2.1 o1.2.2.2.2.2.2.2.2.2.2.2.1 o1.2.2.2.2.2.2.2.2.2.2.2.2.1.1 o1.2.2.2.2.2.2.2.2.2.2.2.2.1.2 o1.2.2.2.2.2.2.2.2.2.2.2.2.2).bind (fun o10 => eli o10 (fun y37 => (some (((-10 : Int32) - y37.2.2.2.2.2.2.2.2.2.1), ((y37.1, y37.2.1), (y37.2.2.1, y37.2.2.2.1), y37.2.2.2.2.1, y37.2.2.2.2.2.1, (y37.2.2.2.2.2.2.1, y37.2.2.2.2.2.2.2.1), y37.2.2.2.2.2.2.2.2.1, y37.2.2.2.2.2.2.2.2.2.1, (y37.2.2.2.2.2.2.2.2.2.2.1, y37.2.2.2.2.2.2.2.2.2.2.2.1), y37.2.2.2.2.2.2.2.2.2.2.2.2.1, y37.2.2.2.2.2.2.2.2.2.2.2.2.2.1, y37.2.2.2.2.2.2.2.2.2.2.2.2.2.2.1, y37.2.2.2.2.2.2.2.2.2.2.2.2.2.2.2.1, (y37.2.2.2.2.2.2.2.2.2.2.2.2.2.2.2.2.1, y37.2.2.2.2.2.2.2.2.2.2.2.2.2.2.2.2.2.1), y37.2.2.2.2.2.2.2.2.2.2.2.2.2.2.2.2.2.2)))) (fun y52 => ((sX11_save N ((y52.1, y52.2.1), (y52.2.2.1, y52.2.2.2.1), y52.2.2.2.2.1, y52.2.2.2.2.2.1, (y52.2.2.2.2.2.2.1, y52.2.2.2.2.2.2.2.1), y52.2.2.2.2.2.2.2.2.1, y52.2.2.2.2.2.2.2.2.2.1, (y52.2.2.2.2.2.2.2.2.2.2.1, y52.2.2.2.2.2.2.2.2.2.2.2.1), y52.2.2.2.2.2.2.2.2.2.2.2.2.1, y52.2.2.2.2.2.2.2.2.2.2.2.2.2.1, y52.2.2.2.2.2.2.2.2.2.2.2.2.2.2.1, y52.2.2.2.2.2.2.2.2.2.2.2.2.2.2.2.1, (y52.2.2.2.2.2.2.2.2.2.2.2.2.2.2.2.2.1, y52.2.2.2.2.2.2.2.2.2.2.2.2.2.2.2.2.2.1), y52.2.2.2.2.2.2.2.2.2.2.2.2.2.2.2.2.2.2)).bind (fun o15 => ((qX11_parsePlan_58 o15 N (0 : Int32) o15.1.2).bind (fun o24 => (grd (vp_in (6 : Int32) o15.1.1) (lt_ (upd o24.2 (6 : Int32).toNatClampNeg o15.2.2.2.2.2.2.2.2.1) (fun f30 => (grd (vp_in (7 : Int32) o15.1.1) (lt_ (upd f30 (7 : Int32).toNatClampNeg (0 : Int32)) (fun f32 => (grd (vp_in (8 : Int32) o15.1.1) (lt_ (upd f32 (8 : Int32).toNatClampNeg (0 : Int32)) (fun f34 => (some (o15.2.2.2.2.2.2.2.2.1, ((o15.1.1, f34), o15.2.1, o15.2.2.1, o15.2.2.2.1, o15.2.2.2.2.1, o15.2.2.2.2.2.1, o15.2.2.2.2.2.2.1, o15.2.2.2.2.2.2.2.1, o15.2.2.2.2.2.2.2.2.1, o15.2.2.2.2.2.2.2.2.2.1, o15.2.2.2.2.2.2.2.2.2.2.1, o15.2.2.2.2.2.2.2.2.2.2.2.1, o15.2.2.2.2.2.2.2.2.2.2.2.2.1, o15.2.2.2.2.2.2.2.2.2.2.2.2.2))))))))))))))))))))) = some o := hsp
  refine MI.ofW (cc := cX11_parsePlan) (maxL := 2) (ret := (some .int)) (by decide) rfl (Nat.le_of_ble_eq_true rfl) ?_
  intro p e s m args below meth c A ls Q H locs hx hb hr hlk hml hown hnm hts hz hA hQ hw hl
  have hl : lv_has ls 2 [(0, .ref a0.1)] := hl
  have hw : ww A s.heap D [[(a0.1, .inr (11, [.ref a0.2.1, .ref a0.2.2.1, .int v0.2.2.1, .int v0.2.2.2.1, .ref a0.2.2.2.1, .int v0.2.2.2.2.2.1, .int v0.2.2.2.2.2.2.1, .ref a0.2.2.2.2.1, .int v0.2.2.2.2.2.2.2.2.1, .int v0.2.2.2.2.2.2.2.2.2.1, .int v0.2.2.2.2.2.2.2.2.2.2.1, .int v0.2.2.2.2.2.2.2.2.2.2.2.1, .ref a0.2.2.2.2.2, .int v0.2.2.2.2.2.2.2.2.2.2.2.2.2]))], [(a0.2.1, .inl (cA, v0.1.1, .inl v0.1.2))], [(a0.2.2.1, .inl (cA, v0.2.1.1, .inl v0.2.1.2))], [(a0.2.2.2.1, .inl (cA, v0.2.2.2.2.1.1, .inl v0.2.2.2.2.1.2))], [(a0.2.2.2.2.1, .inl (cA, v0.2.2.2.2.2.2.2.1.1, .inl v0.2.2.2.2.2.2.2.1.2))], [(a0.2.2.2.2.2, .inl (cA, v0.2.2.2.2.2.2.2.2.2.2.2.2.1.1, .inl v0.2.2.2.2.2.2.2.2.2.2.2.2.1.2))]] H locs := hw
  refine lv_aload_n hx hb dX11_parsePlan_0 rfl (lv_at hl 0 rfl) ?_
  refine lv_iconst (v := 0) hx hb dX11_parsePlan_1 (by decide) ?_
  refine k_put (ci := 11) (v := .int (0 : Int32)) (ty := .int) (C := RX11) (T := TX11) (N := 14) (bs1 := [[(a0.1, .inr (11, [.ref a0.2.1, .ref a0.2.2.1, .int v0.2.2.1, .int (0 : Int32), .ref a0.2.2.2.1, .int v0.2.2.2.2.2.1, .int v0.2.2.2.2.2.2.1, .ref a0.2.2.2.2.1, .int v0.2.2.2.2.2.2.2.2.1, .int v0.2.2.2.2.2.2.2.2.2.1, .int v0.2.2.2.2.2.2.2.2.2.2.1, .int v0.2.2.2.2.2.2.2.2.2.2.2.1, .ref a0.2.2.2.2.2, .int v0.2.2.2.2.2.2.2.2.2.2.2.2.2]))], [(a0.2.1, .inl (cA, v0.1.1, .inl v0.1.2))], [(a0.2.2.1, .inl (cA, v0.2.1.1, .inl v0.2.1.2))], [(a0.2.2.2.1, .inl (cA, v0.2.2.2.2.1.1, .inl v0.2.2.2.2.1.2))], [(a0.2.2.2.2.1, .inl (cA, v0.2.2.2.2.2.2.2.1.1, .inl v0.2.2.2.2.2.2.2.1.2))], [(a0.2.2.2.2.2, .inl (cA, v0.2.2.2.2.2.2.2.2.2.2.2.2.1.1, .inl v0.2.2.2.2.2.2.2.2.2.2.2.2.1.2))]]) hx hb hts hown hz hw (by decide +kernel) tyX11 tyX11_ok nmX11 0 rfl rfl 3 (by decide) (hts (.fieldLink RX11 28 "OccupancyMonitorModel" "thrown" "I") (by decide +kernel)) (fun _ h9 => h9) rfl (by decide +kernel) rfl rfl (Nat.le_of_ble_eq_true rfl) dX11_parsePlan_2 rfl (fun H locs hw => ?_)
  refine lv_aload_n hx hb dX11_parsePlan_5 rfl (lv_at hl 0 rfl) ?_
  refine lv_iconst (v := 0) hx hb dX11_parsePlan_6 (by decide) ?_
  refine k_put (ci := 11) (v := .int (0 : Int32)) (ty := .int) (C := RX11) (T := TX11) (N := 14) (bs1 := [[(a0.1, .inr (11, [.ref a0.2.1, .ref a0.2.2.1, .int v0.2.2.1, .int (0 : Int32), .ref a0.2.2.2.1, .int v0.2.2.2.2.2.1, .int (0 : Int32), .ref a0.2.2.2.2.1, .int v0.2.2.2.2.2.2.2.2.1, .int v0.2.2.2.2.2.2.2.2.2.1, .int v0.2.2.2.2.2.2.2.2.2.2.1, .int v0.2.2.2.2.2.2.2.2.2.2.2.1, .ref a0.2.2.2.2.2, .int v0.2.2.2.2.2.2.2.2.2.2.2.2.2]))], [(a0.2.1, .inl (cA, v0.1.1, .inl v0.1.2))], [(a0.2.2.1, .inl (cA, v0.2.1.1, .inl v0.2.1.2))], [(a0.2.2.2.1, .inl (cA, v0.2.2.2.2.1.1, .inl v0.2.2.2.2.1.2))], [(a0.2.2.2.2.1, .inl (cA, v0.2.2.2.2.2.2.2.1.1, .inl v0.2.2.2.2.2.2.2.1.2))], [(a0.2.2.2.2.2, .inl (cA, v0.2.2.2.2.2.2.2.2.2.2.2.2.1.1, .inl v0.2.2.2.2.2.2.2.2.2.2.2.2.1.2))]]) hx hb hts hown hz hw (by decide +kernel) tyX11 tyX11_ok nmX11 0 rfl rfl 6 (by decide) (hts (.fieldLink RX11 73 "OccupancyMonitorModel" "place" "I") (by decide +kernel)) (fun _ h9 => h9) rfl (by decide +kernel) rfl rfl (Nat.le_of_ble_eq_true rfl) dX11_parsePlan_7 rfl (fun H locs hw => ?_)
  refine lv_aload_n hx hb dX11_parsePlan_10 rfl (lv_at hl 0 rfl) ?_
  refine lv_iconst (v := 0) hx hb dX11_parsePlan_11 (by decide) ?_
  refine k_put (ci := 11) (v := .int (0 : Int32)) (ty := .int) (C := RX11) (T := TX11) (N := 14) (bs1 := [[(a0.1, .inr (11, [.ref a0.2.1, .ref a0.2.2.1, .int v0.2.2.1, .int (0 : Int32), .ref a0.2.2.2.1, .int v0.2.2.2.2.2.1, .int (0 : Int32), .ref a0.2.2.2.2.1, .int (0 : Int32), .int v0.2.2.2.2.2.2.2.2.2.1, .int v0.2.2.2.2.2.2.2.2.2.2.1, .int v0.2.2.2.2.2.2.2.2.2.2.2.1, .ref a0.2.2.2.2.2, .int v0.2.2.2.2.2.2.2.2.2.2.2.2.2]))], [(a0.2.1, .inl (cA, v0.1.1, .inl v0.1.2))], [(a0.2.2.1, .inl (cA, v0.2.1.1, .inl v0.2.1.2))], [(a0.2.2.2.1, .inl (cA, v0.2.2.2.2.1.1, .inl v0.2.2.2.2.1.2))], [(a0.2.2.2.2.1, .inl (cA, v0.2.2.2.2.2.2.2.1.1, .inl v0.2.2.2.2.2.2.2.1.2))], [(a0.2.2.2.2.2, .inl (cA, v0.2.2.2.2.2.2.2.2.2.2.2.2.1.1, .inl v0.2.2.2.2.2.2.2.2.2.2.2.2.1.2))]]) hx hb hts hown hz hw (by decide +kernel) tyX11 tyX11_ok nmX11 0 rfl rfl 8 (by decide) (hts (.fieldLink RX11 87 "OccupancyMonitorModel" "readMany" "I") (by decide +kernel)) (fun _ h9 => h9) rfl (by decide +kernel) rfl rfl (Nat.le_of_ble_eq_true rfl) dX11_parsePlan_12 rfl (fun H locs hw => ?_)
  refine lv_aload_n hx hb dX11_parsePlan_15 rfl (lv_at hl 0 rfl) ?_
  have hw : ww A s.heap D [w11 cA a0 (v0.1, v0.2.1, v0.2.2.1, (0 : Int32), v0.2.2.2.2.1, v0.2.2.2.2.2.1, (0 : Int32), v0.2.2.2.2.2.2.2.1, (0 : Int32), v0.2.2.2.2.2.2.2.2.2.1, v0.2.2.2.2.2.2.2.2.2.2.1, v0.2.2.2.2.2.2.2.2.2.2.2.1, v0.2.2.2.2.2.2.2.2.2.2.2.2.1, v0.2.2.2.2.2.2.2.2.2.2.2.2.2)] H locs := hw
  obtain ⟨o1, hso1, hsp⟩ := bnd_of hsp
  refine k_callV (ci := 11) (C := RX11) (T := TX11) (N := 14) (nA := 0) (As := []) (cs := [w11 cA a0 (v0.1, v0.2.1, v0.2.2.1, (0 : Int32), v0.2.2.2.2.1, v0.2.2.2.2.2.1, (0 : Int32), v0.2.2.2.2.2.2.2.1, (0 : Int32), v0.2.2.2.2.2.2.2.2.2.1, v0.2.2.2.2.2.2.2.2.2.2.1, v0.2.2.2.2.2.2.2.2.2.2.2.1, v0.2.2.2.2.2.2.2.2.2.2.2.2.1, v0.2.2.2.2.2.2.2.2.2.2.2.2.2)]) (rs := []) (cs1 := [w11 cA a0 o1]) (bs1 := [w11 cA a0 o1]) (rest := []) (st1 := []) ⟨hx, hb, hml, hown, hts⟩ hz hw hA (mX11_skips l D cA cR N a0 (v0.1, v0.2.1, v0.2.2.1, (0 : Int32), v0.2.2.2.2.1, v0.2.2.2.2.2.1, (0 : Int32), v0.2.2.2.2.2.2.2.1, (0 : Int32), v0.2.2.2.2.2.2.2.2.2.1, v0.2.2.2.2.2.2.2.2.2.2.1, v0.2.2.2.2.2.2.2.2.2.2.2.1, v0.2.2.2.2.2.2.2.2.2.2.2.2.1, v0.2.2.2.2.2.2.2.2.2.2.2.2.2) o1 hso1) gX11_parsePlan_X11_skips rfl rfl rfl (by decide +kernel) rfl ⟨Nat.le_of_ble_eq_true rfl, Nat.le_of_ble_eq_true rfl⟩ rfl rfl hl.1 rfl (Nat.le_of_ble_eq_true rfl) dX11_parsePlan_16 ⟨Nat.le_of_ble_eq_true rfl, Nat.le_of_ble_eq_true rfl⟩ [0] [] [0] rfl rfl rfl rfl rfl rfl (fun H locs hw => ?_)
  have hw : ww A s.heap D [[(a0.1, .inr (11, [.ref a0.2.1, .ref a0.2.2.1, .int o1.2.2.1, .int o1.2.2.2.1, .ref a0.2.2.2.1, .int o1.2.2.2.2.2.1, .int o1.2.2.2.2.2.2.1, .ref a0.2.2.2.2.1, .int o1.2.2.2.2.2.2.2.2.1, .int o1.2.2.2.2.2.2.2.2.2.1, .int o1.2.2.2.2.2.2.2.2.2.2.1, .int o1.2.2.2.2.2.2.2.2.2.2.2.1, .ref a0.2.2.2.2.2, .int o1.2.2.2.2.2.2.2.2.2.2.2.2.2]))], [(a0.2.1, .inl (cA, o1.1.1, .inl o1.1.2))], [(a0.2.2.1, .inl (cA, o1.2.1.1, .inl o1.2.1.2))], [(a0.2.2.2.1, .inl (cA, o1.2.2.2.2.1.1, .inl o1.2.2.2.2.1.2))], [(a0.2.2.2.2.1, .inl (cA, o1.2.2.2.2.2.2.2.1.1, .inl o1.2.2.2.2.2.2.2.1.2))], [(a0.2.2.2.2.2, .inl (cA, o1.2.2.2.2.2.2.2.2.2.2.2.2.1.1, .inl o1.2.2.2.2.2.2.2.2.2.2.2.2.1.2))]] H locs := hw
  have L19 : ∀ (n19 : Nat) (z19_0 : Nat) (z19_1 : (Nat → Int32)) (z19_2 : Nat) (z19_3 : (Nat → Int32)) (z19_4 : Int32) (z19_5 : Int32) (z19_6 : Nat) (z19_7 : (Nat → Int32)) (z19_8 : Int32) (z19_9 : Int32) (z19_10 : Nat) (z19_11 : (Nat → Int32)) (z19_12 : Int32) (z19_13 : Int32) (z19_14 : Int32) (z19_15 : Int32) (z19_16 : Nat) (z19_17 : (Nat → Int32)) (z19_18 : Int32) (o10 : (Nat × (Nat → Int32) × Nat × (Nat → Int32) × Int32 × Int32 × Nat × (Nat → Int32) × Int32 × Int32 × Nat × (Nat → Int32) × Int32 × Int32 × Int32 × Int32 × Nat × (Nat → Int32) × Int32) ⊕ (Nat × (Nat → Int32) × Nat × (Nat → Int32) × Int32 × Int32 × Nat × (Nat → Int32) × Int32 × Int32 × Nat × (Nat → Int32) × Int32 × Int32 × Int32 × Int32 × Nat × (Nat → Int32) × Int32)), qX11_parsePlan_19 N n19 z19_0 z19_1 z19_2 z19_3 z19_4 z19_5 z19_6 z19_7 z19_8 z19_9 z19_10 z19_11 z19_12 z19_13 z19_14 z19_15 z19_16 z19_17 z19_18 = some o10 → ∀ (H : Heap) (locs : List Loc) (ls : Array Slot), ww A s.heap D [[(a0.1, .inr (11, [.ref a0.2.1, .ref a0.2.2.1, .int z19_4, .int z19_5, .ref a0.2.2.2.1, .int z19_8, .int z19_9, .ref a0.2.2.2.2.1, .int z19_12, .int z19_13, .int z19_14, .int z19_15, .ref a0.2.2.2.2.2, .int z19_18]))], [(a0.2.1, .inl (cA, z19_0, .inl z19_1))], [(a0.2.2.1, .inl (cA, z19_2, .inl z19_3))], [(a0.2.2.2.1, .inl (cA, z19_6, .inl z19_7))], [(a0.2.2.2.2.1, .inl (cA, z19_10, .inl z19_11))], [(a0.2.2.2.2.2, .inl (cA, z19_16, .inl z19_17))]] H locs → lv_has ls 2 [(0, .ref a0.1)] → (∀ (y37 : Nat × (Nat → Int32) × Nat × (Nat → Int32) × Int32 × Int32 × Nat × (Nat → Int32) × Int32 × Int32 × Nat × (Nat → Int32) × Int32 × Int32 × Int32 × Int32 × Nat × (Nat → Int32) × Int32), o10 = (.inl y37) → ∀ (H : Heap) (locs : List Loc) (ls : Array Slot), ww A s.heap D [[(a0.1, .inr (11, [.ref a0.2.1, .ref a0.2.2.1, .int y37.2.2.2.2.1, .int y37.2.2.2.2.2.1, .ref a0.2.2.2.1, .int y37.2.2.2.2.2.2.2.2.1, .int y37.2.2.2.2.2.2.2.2.2.1, .ref a0.2.2.2.2.1, .int y37.2.2.2.2.2.2.2.2.2.2.2.2.1, .int y37.2.2.2.2.2.2.2.2.2.2.2.2.2.1, .int y37.2.2.2.2.2.2.2.2.2.2.2.2.2.2.1, .int y37.2.2.2.2.2.2.2.2.2.2.2.2.2.2.2.1, .ref a0.2.2.2.2.2, .int y37.2.2.2.2.2.2.2.2.2.2.2.2.2.2.2.2.2.2]))], [(a0.2.1, .inl (cA, y37.1, .inl y37.2.1))], [(a0.2.2.1, .inl (cA, y37.2.2.1, .inl y37.2.2.2.1))], [(a0.2.2.2.1, .inl (cA, y37.2.2.2.2.2.2.1, .inl y37.2.2.2.2.2.2.2.1))], [(a0.2.2.2.2.1, .inl (cA, y37.2.2.2.2.2.2.2.2.2.2.1, .inl y37.2.2.2.2.2.2.2.2.2.2.2.1))], [(a0.2.2.2.2.2, .inl (cA, y37.2.2.2.2.2.2.2.2.2.2.2.2.2.2.2.2.1, .inl y37.2.2.2.2.2.2.2.2.2.2.2.2.2.2.2.2.2.1))]] H locs → lv_has ls 2 [(0, .ref a0.1)] → W p l e rX11_parsePlan s m args below meth c H locs 0 0 Q (F0 m 37 ls [])) → (∀ (y52 : Nat × (Nat → Int32) × Nat × (Nat → Int32) × Int32 × Int32 × Nat × (Nat → Int32) × Int32 × Int32 × Nat × (Nat → Int32) × Int32 × Int32 × Int32 × Int32 × Nat × (Nat → Int32) × Int32), o10 = (.inr y52) → ∀ (H : Heap) (locs : List Loc) (ls : Array Slot), ww A s.heap D [[(a0.1, .inr (11, [.ref a0.2.1, .ref a0.2.2.1, .int y52.2.2.2.2.1, .int y52.2.2.2.2.2.1, .ref a0.2.2.2.1, .int y52.2.2.2.2.2.2.2.2.1, .int y52.2.2.2.2.2.2.2.2.2.1, .ref a0.2.2.2.2.1, .int y52.2.2.2.2.2.2.2.2.2.2.2.2.1, .int y52.2.2.2.2.2.2.2.2.2.2.2.2.2.1, .int y52.2.2.2.2.2.2.2.2.2.2.2.2.2.2.1, .int y52.2.2.2.2.2.2.2.2.2.2.2.2.2.2.2.1, .ref a0.2.2.2.2.2, .int y52.2.2.2.2.2.2.2.2.2.2.2.2.2.2.2.2.2.2]))], [(a0.2.1, .inl (cA, y52.1, .inl y52.2.1))], [(a0.2.2.1, .inl (cA, y52.2.2.1, .inl y52.2.2.2.1))], [(a0.2.2.2.1, .inl (cA, y52.2.2.2.2.2.2.1, .inl y52.2.2.2.2.2.2.2.1))], [(a0.2.2.2.2.1, .inl (cA, y52.2.2.2.2.2.2.2.2.2.2.1, .inl y52.2.2.2.2.2.2.2.2.2.2.2.1))], [(a0.2.2.2.2.2, .inl (cA, y52.2.2.2.2.2.2.2.2.2.2.2.2.2.2.2.2.1, .inl y52.2.2.2.2.2.2.2.2.2.2.2.2.2.2.2.2.2.1))]] H locs → lv_has ls 2 [(0, .ref a0.1)] → W p l e rX11_parsePlan s m args below meth c H locs 0 0 Q (F0 m 52 ls [])) → W p l e rX11_parsePlan s m args below meth c H locs 0 0 Q (F0 m 19 ls []) := by
    intro n19
    induction n19 with
    | zero => intro z19_0 z19_1 z19_2 z19_3 z19_4 z19_5 z19_6 z19_7 z19_8 z19_9 z19_10 z19_11 z19_12 z19_13 z19_14 z19_15 z19_16 z19_17 z19_18 o10 hsp; cases hsp
    | succ n19 ih19 =>
      intro z19_0 z19_1 z19_2 z19_3 z19_4 z19_5 z19_6 z19_7 z19_8 z19_9 z19_10 z19_11 z19_12 z19_13 z19_14 z19_15 z19_16 z19_17 z19_18 o10 hsp H locs ls hw hl kx19_37 kx19_52
      have hsp : (if z19_8 ≤ z19_9 then (some (.inr (z19_0, z19_1, z19_2, z19_3, z19_4, z19_5, z19_6, z19_7, z19_8, z19_9, z19_10, z19_11, z19_12, z19_13, z19_14, z19_15, z19_16, z19_17, z19_18))) else ((sX11_readsStep N ((z19_0, z19_1), (z19_2, z19_3), z19_4, z19_5, (z19_6, z19_7), z19_8, z19_9, (z19_10, z19_11), z19_12, z19_13, z19_14, z19_15, (z19_16, z19_17), z19_18)).bind (fun o12 => (if o12.1 = 0 then (some (.inl (o12.2.1.1, o12.2.1.2, o12.2.2.1.1, o12.2.2.1.2, o12.2.2.2.1, o12.2.2.2.2.1, o12.2.2.2.2.2.1.1, o12.2.2.2.2.2.1.2, o12.2.2.2.2.2.2.1, o12.2.2.2.2.2.2.2.1, o12.2.2.2.2.2.2.2.2.1.1, o12.2.2.2.2.2.2.2.2.1.2, o12.2.2.2.2.2.2.2.2.2.1, o12.2.2.2.2.2.2.2.2.2.2.1, o12.2.2.2.2.2.2.2.2.2.2.2.1, o12.2.2.2.2.2.2.2.2.2.2.2.2.1, o12.2.2.2.2.2.2.2.2.2.2.2.2.2.1.1, o12.2.2.2.2.2.2.2.2.2.2.2.2.2.1.2, o12.2.2.2.2.2.2.2.2.2.2.2.2.2.2))) else ((sX11_skips N o12.2).bind (fun o14 => (qX11_parsePlan_19 N n19 o14.1.1 o14.1.2 o14.2.1.1 o14.2.1.2 o14.2.2.1 o14.2.2.2.1 o14.2.2.2.2.1.1 o14.2.2.2.2.1.2 o14.2.2.2.2.2.1 o14.2.2.2.2.2.2.1 o14.2.2.2.2.2.2.2.1.1 o14.2.2.2.2.2.2.2.1.2 o14.2.2.2.2.2.2.2.2.1 o14.2.2.2.2.2.2.2.2.2.1 o14.2.2.2.2.2.2.2.2.2.2.1 o14.2.2.2.2.2.2.2.2.2.2.2.1 o14.2.2.2.2.2.2.2.2.2.2.2.2.1.1 o14.2.2.2.2.2.2.2.2.2.2.2.2.1.2 o14.2.2.2.2.2.2.2.2.2.2.2.2.2))))))) = some o10 := hsp
      refine lv_aload_n hx hb dX11_parsePlan_19 rfl (lv_at hl 0 rfl) ?_
      refine k_get (ci := 11) (v := .int z19_9) (C := RX11) (T := TX11) (N := 14) hx hb hts hown hz hw (by decide +kernel) 0 rfl rfl 6 (by decide) (hts (.fieldLink RX11 73 "OccupancyMonitorModel" "place" "I") (by decide +kernel)) (fun _ h9 => h9) rfl dX11_parsePlan_20 ?_
      refine lv_aload_n hx hb dX11_parsePlan_23 rfl (lv_at hl 0 rfl) ?_
      refine k_get (ci := 11) (v := .int z19_8) (C := RX11) (T := TX11) (N := 14) hx hb hts hown hz hw (by decide +kernel) 0 rfl rfl 5 (by decide) (hts (.fieldLink RX11 70 "OccupancyMonitorModel" "textLong" "I") (by decide +kernel)) (fun _ h9 => h9) rfl dX11_parsePlan_24 ?_
      refine lv_icmp_ge (tgt := 52) hx hb dX11_parsePlan_27 (by decide) (fun c11 => ?_) (fun c11 => ?_)
      · have hsp := ift c11 hsp
        have hsp := Option.some.inj hsp
        subst hsp
        exact kx19_52 _ rfl _ _ _ hw (lv_sub hl [0] rfl)
      · have hsp := iff_ c11 hsp
        refine lv_aload_n hx hb dX11_parsePlan_30 rfl (lv_at hl 0 rfl) ?_
        have hw : ww A s.heap D [w11 cA a0 ((z19_0, z19_1), (z19_2, z19_3), z19_4, z19_5, (z19_6, z19_7), z19_8, z19_9, (z19_10, z19_11), z19_12, z19_13, z19_14, z19_15, (z19_16, z19_17), z19_18)] H locs := hw
        obtain ⟨o12, hso12, hsp⟩ := bnd_of hsp
        refine k_callV (ci := 11) (C := RX11) (T := TX11) (N := 14) (nA := 0) (As := []) (cs := [w11 cA a0 ((z19_0, z19_1), (z19_2, z19_3), z19_4, z19_5, (z19_6, z19_7), z19_8, z19_9, (z19_10, z19_11), z19_12, z19_13, z19_14, z19_15, (z19_16, z19_17), z19_18)]) (rs := []) (cs1 := [w11 cA a0 o12.2]) (bs1 := [w11 cA a0 o12.2]) (rest := []) (st1 := [.int o12.1]) ⟨hx, hb, hml, hown, hts⟩ hz hw hA (mX11_readsStep l D cA cR N a0 ((z19_0, z19_1), (z19_2, z19_3), z19_4, z19_5, (z19_6, z19_7), z19_8, z19_9, (z19_10, z19_11), z19_12, z19_13, z19_14, z19_15, (z19_16, z19_17), z19_18) o12 hso12) gX11_parsePlan_X11_readsStep rfl rfl rfl (by decide +kernel) rfl ⟨Nat.le_of_ble_eq_true rfl, Nat.le_of_ble_eq_true rfl⟩ rfl rfl hl.1 rfl (Nat.le_of_ble_eq_true rfl) dX11_parsePlan_31 ⟨Nat.le_of_ble_eq_true rfl, Nat.le_of_ble_eq_true rfl⟩ [0] [] [0] rfl rfl rfl rfl rfl rfl (fun H locs hw => ?_)
        have hw : ww A s.heap D [[(a0.1, .inr (11, [.ref a0.2.1, .ref a0.2.2.1, .int o12.2.2.2.1, .int o12.2.2.2.2.1, .ref a0.2.2.2.1, .int o12.2.2.2.2.2.2.1, .int o12.2.2.2.2.2.2.2.1, .ref a0.2.2.2.2.1, .int o12.2.2.2.2.2.2.2.2.2.1, .int o12.2.2.2.2.2.2.2.2.2.2.1, .int o12.2.2.2.2.2.2.2.2.2.2.2.1, .int o12.2.2.2.2.2.2.2.2.2.2.2.2.1, .ref a0.2.2.2.2.2, .int o12.2.2.2.2.2.2.2.2.2.2.2.2.2.2]))], [(a0.2.1, .inl (cA, o12.2.1.1, .inl o12.2.1.2))], [(a0.2.2.1, .inl (cA, o12.2.2.1.1, .inl o12.2.2.1.2))], [(a0.2.2.2.1, .inl (cA, o12.2.2.2.2.2.1.1, .inl o12.2.2.2.2.2.1.2))], [(a0.2.2.2.2.1, .inl (cA, o12.2.2.2.2.2.2.2.2.1.1, .inl o12.2.2.2.2.2.2.2.2.1.2))], [(a0.2.2.2.2.2, .inl (cA, o12.2.2.2.2.2.2.2.2.2.2.2.2.2.1.1, .inl o12.2.2.2.2.2.2.2.2.2.2.2.2.2.1.2))]] H locs := hw
        refine lv_if_ne (tgt := 45) hx hb dX11_parsePlan_34 (by decide) (fun c13 => ?_) (fun c13 => ?_)
        · have hsp := iff_ c13 hsp
          refine lv_aload_n hx hb dX11_parsePlan_45 rfl (lv_at hl 0 rfl) ?_
          have hw : ww A s.heap D [w11 cA a0 o12.2] H locs := hw
          obtain ⟨o14, hso14, hsp⟩ := bnd_of hsp
          refine k_callV (ci := 11) (C := RX11) (T := TX11) (N := 14) (nA := 0) (As := []) (cs := [w11 cA a0 o12.2]) (rs := []) (cs1 := [w11 cA a0 o14]) (bs1 := [w11 cA a0 o14]) (rest := []) (st1 := []) ⟨hx, hb, hml, hown, hts⟩ hz hw hA (mX11_skips l D cA cR N a0 o12.2 o14 hso14) gX11_parsePlan_X11_skips rfl rfl rfl (by decide +kernel) rfl ⟨Nat.le_of_ble_eq_true rfl, Nat.le_of_ble_eq_true rfl⟩ rfl rfl hl.1 rfl (Nat.le_of_ble_eq_true rfl) dX11_parsePlan_46 ⟨Nat.le_of_ble_eq_true rfl, Nat.le_of_ble_eq_true rfl⟩ [0] [] [0] rfl rfl rfl rfl rfl rfl (fun H locs hw => ?_)
          have hw : ww A s.heap D [[(a0.1, .inr (11, [.ref a0.2.1, .ref a0.2.2.1, .int o14.2.2.1, .int o14.2.2.2.1, .ref a0.2.2.2.1, .int o14.2.2.2.2.2.1, .int o14.2.2.2.2.2.2.1, .ref a0.2.2.2.2.1, .int o14.2.2.2.2.2.2.2.2.1, .int o14.2.2.2.2.2.2.2.2.2.1, .int o14.2.2.2.2.2.2.2.2.2.2.1, .int o14.2.2.2.2.2.2.2.2.2.2.2.1, .ref a0.2.2.2.2.2, .int o14.2.2.2.2.2.2.2.2.2.2.2.2.2]))], [(a0.2.1, .inl (cA, o14.1.1, .inl o14.1.2))], [(a0.2.2.1, .inl (cA, o14.2.1.1, .inl o14.2.1.2))], [(a0.2.2.2.1, .inl (cA, o14.2.2.2.2.1.1, .inl o14.2.2.2.2.1.2))], [(a0.2.2.2.2.1, .inl (cA, o14.2.2.2.2.2.2.2.1.1, .inl o14.2.2.2.2.2.2.2.1.2))], [(a0.2.2.2.2.2, .inl (cA, o14.2.2.2.2.2.2.2.2.2.2.2.2.1.1, .inl o14.2.2.2.2.2.2.2.2.2.2.2.2.1.2))]] H locs := hw
          refine lv_goto (tgt := 19) hx hb dX11_parsePlan_49 (by decide) ?_
          exact ih19 o14.1.1 o14.1.2 o14.2.1.1 o14.2.1.2 o14.2.2.1 o14.2.2.2.1 o14.2.2.2.2.1.1 o14.2.2.2.2.1.2 o14.2.2.2.2.2.1 o14.2.2.2.2.2.2.1 o14.2.2.2.2.2.2.2.1.1 o14.2.2.2.2.2.2.2.1.2 o14.2.2.2.2.2.2.2.2.1 o14.2.2.2.2.2.2.2.2.2.1 o14.2.2.2.2.2.2.2.2.2.2.1 o14.2.2.2.2.2.2.2.2.2.2.2.1 o14.2.2.2.2.2.2.2.2.2.2.2.2.1.1 o14.2.2.2.2.2.2.2.2.2.2.2.2.1.2 o14.2.2.2.2.2.2.2.2.2.2.2.2.2 _ hsp _ _ _ hw (lv_sub hl [0] rfl) kx19_37 kx19_52
        · have hsp := ift c13 hsp
          have hsp := Option.some.inj hsp
          subst hsp
          exact kx19_37 _ rfl _ _ _ hw (lv_sub hl [0] rfl)
  obtain ⟨o10, hso10, hsp⟩ := bnd_of hsp
  refine L19 N o1.1.1 o1.1.2 o1.2.1.1 o1.2.1.2 o1.2.2.1 o1.2.2.2.1 o1.2.2.2.2.1.1 o1.2.2.2.2.1.2 o1.2.2.2.2.2.1 o1.2.2.2.2.2.2.1 o1.2.2.2.2.2.2.2.1.1 o1.2.2.2.2.2.2.2.1.2 o1.2.2.2.2.2.2.2.2.1 o1.2.2.2.2.2.2.2.2.2.1 o1.2.2.2.2.2.2.2.2.2.2.1 o1.2.2.2.2.2.2.2.2.2.2.2.1 o1.2.2.2.2.2.2.2.2.2.2.2.2.1.1 o1.2.2.2.2.2.2.2.2.2.2.2.2.1.2 o1.2.2.2.2.2.2.2.2.2.2.2.2.2 _ hso10 _ _ _ hw (lv_sub hl [0] rfl) (fun y37 hy37 H locs ls hw hl => ?_) (fun y52 hy52 H locs ls hw hl => ?_)
  · subst hy37
    have hsp := eli_l hsp
    refine lv_bipush (v := -10) hx hb dX11_parsePlan_37 (by decide) ?_
    refine lv_aload_n hx hb dX11_parsePlan_39 rfl (lv_at hl 0 rfl) ?_
    refine k_get (ci := 11) (v := .int y37.2.2.2.2.2.2.2.2.2.1) (C := RX11) (T := TX11) (N := 14) hx hb hts hown hz hw (by decide +kernel) 0 rfl rfl 6 (by decide) (hts (.fieldLink RX11 73 "OccupancyMonitorModel" "place" "I") (by decide +kernel)) (fun _ h9 => h9) rfl dX11_parsePlan_40 ?_
    refine lv_isub hx hb dX11_parsePlan_43 ?_
    have hsp := Option.some.inj hsp
    subst hsp
    have hw : ww A s.heap D [w11 cA a0 ((y37.1, y37.2.1), (y37.2.2.1, y37.2.2.2.1), y37.2.2.2.2.1, y37.2.2.2.2.2.1, (y37.2.2.2.2.2.2.1, y37.2.2.2.2.2.2.2.1), y37.2.2.2.2.2.2.2.2.1, y37.2.2.2.2.2.2.2.2.2.1, (y37.2.2.2.2.2.2.2.2.2.2.1, y37.2.2.2.2.2.2.2.2.2.2.2.1), y37.2.2.2.2.2.2.2.2.2.2.2.2.1, y37.2.2.2.2.2.2.2.2.2.2.2.2.2.1, y37.2.2.2.2.2.2.2.2.2.2.2.2.2.2.1, y37.2.2.2.2.2.2.2.2.2.2.2.2.2.2.2.1, (y37.2.2.2.2.2.2.2.2.2.2.2.2.2.2.2.2.1, y37.2.2.2.2.2.2.2.2.2.2.2.2.2.2.2.2.2.1), y37.2.2.2.2.2.2.2.2.2.2.2.2.2.2.2.2.2.2)] H locs := hw
    subst hQ
    exact k_iret hx hb hr hlk hw dX11_parsePlan_44
  · subst hy52
    have hsp := eli_r hsp
    refine lv_aload_n hx hb dX11_parsePlan_52 rfl (lv_at hl 0 rfl) ?_
    have hw : ww A s.heap D [w11 cA a0 ((y52.1, y52.2.1), (y52.2.2.1, y52.2.2.2.1), y52.2.2.2.2.1, y52.2.2.2.2.2.1, (y52.2.2.2.2.2.2.1, y52.2.2.2.2.2.2.2.1), y52.2.2.2.2.2.2.2.2.1, y52.2.2.2.2.2.2.2.2.2.1, (y52.2.2.2.2.2.2.2.2.2.2.1, y52.2.2.2.2.2.2.2.2.2.2.2.1), y52.2.2.2.2.2.2.2.2.2.2.2.2.1, y52.2.2.2.2.2.2.2.2.2.2.2.2.2.1, y52.2.2.2.2.2.2.2.2.2.2.2.2.2.2.1, y52.2.2.2.2.2.2.2.2.2.2.2.2.2.2.2.1, (y52.2.2.2.2.2.2.2.2.2.2.2.2.2.2.2.2.1, y52.2.2.2.2.2.2.2.2.2.2.2.2.2.2.2.2.2.1), y52.2.2.2.2.2.2.2.2.2.2.2.2.2.2.2.2.2.2)] H locs := hw
    obtain ⟨o15, hso15, hsp⟩ := bnd_of hsp
    refine k_callV (ci := 11) (C := RX11) (T := TX11) (N := 14) (nA := 0) (As := []) (cs := [w11 cA a0 ((y52.1, y52.2.1), (y52.2.2.1, y52.2.2.2.1), y52.2.2.2.2.1, y52.2.2.2.2.2.1, (y52.2.2.2.2.2.2.1, y52.2.2.2.2.2.2.2.1), y52.2.2.2.2.2.2.2.2.1, y52.2.2.2.2.2.2.2.2.2.1, (y52.2.2.2.2.2.2.2.2.2.2.1, y52.2.2.2.2.2.2.2.2.2.2.2.1), y52.2.2.2.2.2.2.2.2.2.2.2.2.1, y52.2.2.2.2.2.2.2.2.2.2.2.2.2.1, y52.2.2.2.2.2.2.2.2.2.2.2.2.2.2.1, y52.2.2.2.2.2.2.2.2.2.2.2.2.2.2.2.1, (y52.2.2.2.2.2.2.2.2.2.2.2.2.2.2.2.2.1, y52.2.2.2.2.2.2.2.2.2.2.2.2.2.2.2.2.2.1), y52.2.2.2.2.2.2.2.2.2.2.2.2.2.2.2.2.2.2)]) (rs := []) (cs1 := [w11 cA a0 o15]) (bs1 := [w11 cA a0 o15]) (rest := []) (st1 := []) ⟨hx, hb, hml, hown, hts⟩ hz hw hA (mX11_save l D cA cR N a0 ((y52.1, y52.2.1), (y52.2.2.1, y52.2.2.2.1), y52.2.2.2.2.1, y52.2.2.2.2.2.1, (y52.2.2.2.2.2.2.1, y52.2.2.2.2.2.2.2.1), y52.2.2.2.2.2.2.2.2.1, y52.2.2.2.2.2.2.2.2.2.1, (y52.2.2.2.2.2.2.2.2.2.2.1, y52.2.2.2.2.2.2.2.2.2.2.2.1), y52.2.2.2.2.2.2.2.2.2.2.2.2.1, y52.2.2.2.2.2.2.2.2.2.2.2.2.2.1, y52.2.2.2.2.2.2.2.2.2.2.2.2.2.2.1, y52.2.2.2.2.2.2.2.2.2.2.2.2.2.2.2.1, (y52.2.2.2.2.2.2.2.2.2.2.2.2.2.2.2.2.1, y52.2.2.2.2.2.2.2.2.2.2.2.2.2.2.2.2.2.1), y52.2.2.2.2.2.2.2.2.2.2.2.2.2.2.2.2.2.2) o15 hso15) gX11_parsePlan_X11_save rfl rfl rfl (by decide +kernel) rfl ⟨Nat.le_of_ble_eq_true rfl, Nat.le_of_ble_eq_true rfl⟩ rfl rfl hl.1 rfl (Nat.le_of_ble_eq_true rfl) dX11_parsePlan_53 ⟨Nat.le_of_ble_eq_true rfl, Nat.le_of_ble_eq_true rfl⟩ [0] [] [0] rfl rfl rfl rfl rfl rfl (fun H locs hw => ?_)
    have hw : ww A s.heap D [[(a0.1, .inr (11, [.ref a0.2.1, .ref a0.2.2.1, .int o15.2.2.1, .int o15.2.2.2.1, .ref a0.2.2.2.1, .int o15.2.2.2.2.2.1, .int o15.2.2.2.2.2.2.1, .ref a0.2.2.2.2.1, .int o15.2.2.2.2.2.2.2.2.1, .int o15.2.2.2.2.2.2.2.2.2.1, .int o15.2.2.2.2.2.2.2.2.2.2.1, .int o15.2.2.2.2.2.2.2.2.2.2.2.1, .ref a0.2.2.2.2.2, .int o15.2.2.2.2.2.2.2.2.2.2.2.2.2]))], [(a0.2.1, .inl (cA, o15.1.1, .inl o15.1.2))], [(a0.2.2.1, .inl (cA, o15.2.1.1, .inl o15.2.1.2))], [(a0.2.2.2.1, .inl (cA, o15.2.2.2.2.1.1, .inl o15.2.2.2.2.1.2))], [(a0.2.2.2.2.1, .inl (cA, o15.2.2.2.2.2.2.2.1.1, .inl o15.2.2.2.2.2.2.2.1.2))], [(a0.2.2.2.2.2, .inl (cA, o15.2.2.2.2.2.2.2.2.2.2.2.2.1.1, .inl o15.2.2.2.2.2.2.2.2.2.2.2.2.1.2))]] H locs := hw
    refine lv_iconst (v := 0) hx hb dX11_parsePlan_56 (by decide) ?_
    refine lv_istore_n (lv' := [(1, .int (0 : Int32)), (0, .ref a0.1)]) hx hb dX11_parsePlan_57 rfl hl (by decide) rfl (fun ls hl => ?_)
    have L58 : ∀ (n58 : Nat) (z58_0 : Int32) (z58_1 : (Nat → Int32)) (o24 : Int32 × (Nat → Int32)), qX11_parsePlan_58 o15 n58 z58_0 z58_1 = some o24 → ∀ (H : Heap) (locs : List Loc) (ls : Array Slot), ww A s.heap D [[(a0.1, .inr (11, [.ref a0.2.1, .ref a0.2.2.1, .int o15.2.2.1, .int o15.2.2.2.1, .ref a0.2.2.2.1, .int o15.2.2.2.2.2.1, .int o15.2.2.2.2.2.2.1, .ref a0.2.2.2.2.1, .int o15.2.2.2.2.2.2.2.2.1, .int o15.2.2.2.2.2.2.2.2.2.1, .int o15.2.2.2.2.2.2.2.2.2.2.1, .int o15.2.2.2.2.2.2.2.2.2.2.2.1, .ref a0.2.2.2.2.2, .int o15.2.2.2.2.2.2.2.2.2.2.2.2.2]))], [(a0.2.1, .inl (cA, o15.1.1, .inl z58_1))], [(a0.2.2.1, .inl (cA, o15.2.1.1, .inl o15.2.1.2))], [(a0.2.2.2.1, .inl (cA, o15.2.2.2.2.1.1, .inl o15.2.2.2.2.1.2))], [(a0.2.2.2.2.1, .inl (cA, o15.2.2.2.2.2.2.2.1.1, .inl o15.2.2.2.2.2.2.2.1.2))], [(a0.2.2.2.2.2, .inl (cA, o15.2.2.2.2.2.2.2.2.2.2.2.2.1.1, .inl o15.2.2.2.2.2.2.2.2.2.2.2.2.1.2))]] H locs → lv_has ls 2 [(0, .ref a0.1), (1, .int z58_0)] → (∀ (y89 : Int32 × (Nat → Int32)), o24 = y89 → ∀ (H : Heap) (locs : List Loc) (ls : Array Slot), ww A s.heap D [[(a0.1, .inr (11, [.ref a0.2.1, .ref a0.2.2.1, .int o15.2.2.1, .int o15.2.2.2.1, .ref a0.2.2.2.1, .int o15.2.2.2.2.2.1, .int o15.2.2.2.2.2.2.1, .ref a0.2.2.2.2.1, .int o15.2.2.2.2.2.2.2.2.1, .int o15.2.2.2.2.2.2.2.2.2.1, .int o15.2.2.2.2.2.2.2.2.2.2.1, .int o15.2.2.2.2.2.2.2.2.2.2.2.1, .ref a0.2.2.2.2.2, .int o15.2.2.2.2.2.2.2.2.2.2.2.2.2]))], [(a0.2.1, .inl (cA, o15.1.1, .inl y89.2))], [(a0.2.2.1, .inl (cA, o15.2.1.1, .inl o15.2.1.2))], [(a0.2.2.2.1, .inl (cA, o15.2.2.2.2.1.1, .inl o15.2.2.2.2.1.2))], [(a0.2.2.2.2.1, .inl (cA, o15.2.2.2.2.2.2.2.1.1, .inl o15.2.2.2.2.2.2.2.1.2))], [(a0.2.2.2.2.2, .inl (cA, o15.2.2.2.2.2.2.2.2.2.2.2.2.1.1, .inl o15.2.2.2.2.2.2.2.2.2.2.2.2.1.2))]] H locs → lv_has ls 2 [(0, .ref a0.1), (1, .int y89.1)] → W p l e rX11_parsePlan s m args below meth c H locs 0 0 Q (F0 m 89 ls [])) → W p l e rX11_parsePlan s m args below meth c H locs 0 0 Q (F0 m 58 ls []) := by
      intro n58
      induction n58 with
      | zero => intro z58_0 z58_1 o24 hsp; cases hsp
      | succ n58 ih58 =>
        intro z58_0 z58_1 o24 hsp H locs ls hw hl kx58_89
        have hsp : (if ((3 : Int32) * o15.2.2.2.2.2.2.2.2.1) ≤ z58_0 then (some (z58_0, z58_1)) else (grd (vp_in z58_0 o15.2.2.2.2.2.2.2.1.1) (grd (vp_in ((70 : Int32) + z58_0) o15.1.1) (lt_ (upd z58_1 ((70 : Int32) + z58_0).toNatClampNeg (o15.2.2.2.2.2.2.2.1.2 z58_0.toNatClampNeg)) (fun f28 => (qX11_parsePlan_58 o15 n58 (z58_0 + 1) f28)))))) = some o24 := hsp
        refine lv_iload_n hx hb dX11_parsePlan_58 rfl (lv_at hl 1 rfl) ?_
        refine lv_iconst (v := 3) hx hb dX11_parsePlan_59 (by decide) ?_
        refine lv_aload_n hx hb dX11_parsePlan_60 rfl (lv_at hl 0 rfl) ?_
        refine k_get (ci := 11) (v := .int o15.2.2.2.2.2.2.2.2.1) (C := RX11) (T := TX11) (N := 14) hx hb hts hown hz hw (by decide +kernel) 0 rfl rfl 8 (by decide) (hts (.fieldLink RX11 87 "OccupancyMonitorModel" "readMany" "I") (by decide +kernel)) (fun _ h9 => h9) rfl dX11_parsePlan_61 ?_
        refine lv_imul hx hb dX11_parsePlan_64 ?_
        refine lv_icmp_ge (tgt := 89) hx hb dX11_parsePlan_65 (by decide) (fun c25 => ?_) (fun c25 => ?_)
        · have hsp := ift c25 hsp
          have hsp := Option.some.inj hsp
          subst hsp
          exact kx58_89 _ rfl _ _ _ hw (lv_sub hl [0, 1] rfl)
        · have hsp := iff_ c25 hsp
          refine lv_aload_n hx hb dX11_parsePlan_68 rfl (lv_at hl 0 rfl) ?_
          refine k_get (ci := 11) (v := .ref a0.2.1) (C := RX11) (T := TX11) (N := 14) hx hb hts hown hz hw (by decide +kernel) 0 rfl rfl 0 (by decide) (hts (.fieldLink RX11 7 "OccupancyMonitorModel" "all" "[I") (by decide +kernel)) (fun _ h9 => h9) rfl dX11_parsePlan_69 ?_
          refine lv_bipush (v := 70) hx hb dX11_parsePlan_72 (by decide) ?_
          refine lv_iload_n hx hb dX11_parsePlan_74 rfl (lv_at hl 1 rfl) ?_
          refine lv_iadd hx hb dX11_parsePlan_75 ?_
          refine lv_aload_n hx hb dX11_parsePlan_76 rfl (lv_at hl 0 rfl) ?_
          refine k_get (ci := 11) (v := .ref a0.2.2.2.2.1) (C := RX11) (T := TX11) (N := 14) hx hb hts hown hz hw (by decide +kernel) 0 rfl rfl 7 (by decide) (hts (.fieldLink RX11 19 "OccupancyMonitorModel" "read" "[I") (by decide +kernel)) (fun _ h9 => h9) rfl dX11_parsePlan_77 ?_
          refine lv_iload_n hx hb dX11_parsePlan_80 rfl (lv_at hl 1 rfl) ?_
          obtain ⟨g26, hsp⟩ := grd_of hsp
          refine k_iald hx hb hz hw 4 rfl g26 dX11_parsePlan_81 ?_
          obtain ⟨g27, hsp⟩ := grd_of hsp
          obtain ⟨f28, ef28⟩ : ∃ u : Nat → Int32, u = (upd z58_1 ((70 : Int32) + z58_0).toNatClampNeg (o15.2.2.2.2.2.2.2.1.2 z58_0.toNatClampNeg)) := ⟨_, rfl⟩
          have hsp := lt_of hsp ef28
          refine k_iast (bs1 := [[(a0.1, .inr (11, [.ref a0.2.1, .ref a0.2.2.1, .int o15.2.2.1, .int o15.2.2.2.1, .ref a0.2.2.2.1, .int o15.2.2.2.2.2.1, .int o15.2.2.2.2.2.2.1, .ref a0.2.2.2.2.1, .int o15.2.2.2.2.2.2.2.2.1, .int o15.2.2.2.2.2.2.2.2.2.1, .int o15.2.2.2.2.2.2.2.2.2.2.1, .int o15.2.2.2.2.2.2.2.2.2.2.2.1, .ref a0.2.2.2.2.2, .int o15.2.2.2.2.2.2.2.2.2.2.2.2.2]))], [(a0.2.1, .inl (cA, o15.1.1, .inl f28))], [(a0.2.2.1, .inl (cA, o15.2.1.1, .inl o15.2.1.2))], [(a0.2.2.2.1, .inl (cA, o15.2.2.2.2.1.1, .inl o15.2.2.2.2.1.2))], [(a0.2.2.2.2.1, .inl (cA, o15.2.2.2.2.2.2.2.1.1, .inl o15.2.2.2.2.2.2.2.1.2))], [(a0.2.2.2.2.2, .inl (cA, o15.2.2.2.2.2.2.2.2.2.2.2.2.1.1, .inl o15.2.2.2.2.2.2.2.2.2.2.2.2.1.2))]]) hx hb hz hw 1 rfl g27 dX11_parsePlan_82 (by rw [ef28]; rfl) (fun H locs hw => ?_)
          refine lv_iinc (v := (z58_0 + 1)) (lv' := [(1, .int (z58_0 + 1)), (0, .ref a0.1)]) hx hb dX11_parsePlan_83 hl (k := 1) rfl rfl (by decide) rfl (fun ls hl => ?_)
          refine lv_goto (tgt := 58) hx hb dX11_parsePlan_86 (by decide) ?_
          exact ih58 (z58_0 + 1) f28 _ hsp _ _ _ hw (lv_sub hl [1, 0] rfl) kx58_89
    obtain ⟨o24, hso24, hsp⟩ := bnd_of hsp
    refine L58 N (0 : Int32) o15.1.2 _ hso24 _ _ _ hw (lv_sub hl [1, 0] rfl) (fun y89 hy89 H locs ls hw hl => ?_)
    cases hy89
    refine lv_aload_n hx hb dX11_parsePlan_89 rfl (lv_at hl 0 rfl) ?_
    refine k_get (ci := 11) (v := .ref a0.2.1) (C := RX11) (T := TX11) (N := 14) hx hb hts hown hz hw (by decide +kernel) 0 rfl rfl 0 (by decide) (hts (.fieldLink RX11 7 "OccupancyMonitorModel" "all" "[I") (by decide +kernel)) (fun _ h9 => h9) rfl dX11_parsePlan_90 ?_
    refine lv_bipush (v := 6) hx hb dX11_parsePlan_93 (by decide) ?_
    refine lv_aload_n hx hb dX11_parsePlan_95 rfl (lv_at hl 0 rfl) ?_
    refine k_get (ci := 11) (v := .int o15.2.2.2.2.2.2.2.2.1) (C := RX11) (T := TX11) (N := 14) hx hb hts hown hz hw (by decide +kernel) 0 rfl rfl 8 (by decide) (hts (.fieldLink RX11 87 "OccupancyMonitorModel" "readMany" "I") (by decide +kernel)) (fun _ h9 => h9) rfl dX11_parsePlan_96 ?_
    obtain ⟨g29, hsp⟩ := grd_of hsp
    obtain ⟨f30, ef30⟩ : ∃ u : Nat → Int32, u = (upd o24.2 (6 : Int32).toNatClampNeg o15.2.2.2.2.2.2.2.2.1) := ⟨_, rfl⟩
    have hsp := lt_of hsp ef30
    refine k_iast (bs1 := [[(a0.1, .inr (11, [.ref a0.2.1, .ref a0.2.2.1, .int o15.2.2.1, .int o15.2.2.2.1, .ref a0.2.2.2.1, .int o15.2.2.2.2.2.1, .int o15.2.2.2.2.2.2.1, .ref a0.2.2.2.2.1, .int o15.2.2.2.2.2.2.2.2.1, .int o15.2.2.2.2.2.2.2.2.2.1, .int o15.2.2.2.2.2.2.2.2.2.2.1, .int o15.2.2.2.2.2.2.2.2.2.2.2.1, .ref a0.2.2.2.2.2, .int o15.2.2.2.2.2.2.2.2.2.2.2.2.2]))], [(a0.2.1, .inl (cA, o15.1.1, .inl f30))], [(a0.2.2.1, .inl (cA, o15.2.1.1, .inl o15.2.1.2))], [(a0.2.2.2.1, .inl (cA, o15.2.2.2.2.1.1, .inl o15.2.2.2.2.1.2))], [(a0.2.2.2.2.1, .inl (cA, o15.2.2.2.2.2.2.2.1.1, .inl o15.2.2.2.2.2.2.2.1.2))], [(a0.2.2.2.2.2, .inl (cA, o15.2.2.2.2.2.2.2.2.2.2.2.2.1.1, .inl o15.2.2.2.2.2.2.2.2.2.2.2.2.1.2))]]) hx hb hz hw 1 rfl g29 dX11_parsePlan_99 (by rw [ef30]; rfl) (fun H locs hw => ?_)
    refine lv_aload_n hx hb dX11_parsePlan_100 rfl (lv_at hl 0 rfl) ?_
    refine k_get (ci := 11) (v := .ref a0.2.1) (C := RX11) (T := TX11) (N := 14) hx hb hts hown hz hw (by decide +kernel) 0 rfl rfl 0 (by decide) (hts (.fieldLink RX11 7 "OccupancyMonitorModel" "all" "[I") (by decide +kernel)) (fun _ h9 => h9) rfl dX11_parsePlan_101 ?_
    refine lv_bipush (v := 7) hx hb dX11_parsePlan_104 (by decide) ?_
    refine lv_iconst (v := 0) hx hb dX11_parsePlan_106 (by decide) ?_
    obtain ⟨g31, hsp⟩ := grd_of hsp
    obtain ⟨f32, ef32⟩ : ∃ u : Nat → Int32, u = (upd f30 (7 : Int32).toNatClampNeg (0 : Int32)) := ⟨_, rfl⟩
    have hsp := lt_of hsp ef32
    refine k_iast (bs1 := [[(a0.1, .inr (11, [.ref a0.2.1, .ref a0.2.2.1, .int o15.2.2.1, .int o15.2.2.2.1, .ref a0.2.2.2.1, .int o15.2.2.2.2.2.1, .int o15.2.2.2.2.2.2.1, .ref a0.2.2.2.2.1, .int o15.2.2.2.2.2.2.2.2.1, .int o15.2.2.2.2.2.2.2.2.2.1, .int o15.2.2.2.2.2.2.2.2.2.2.1, .int o15.2.2.2.2.2.2.2.2.2.2.2.1, .ref a0.2.2.2.2.2, .int o15.2.2.2.2.2.2.2.2.2.2.2.2.2]))], [(a0.2.1, .inl (cA, o15.1.1, .inl f32))], [(a0.2.2.1, .inl (cA, o15.2.1.1, .inl o15.2.1.2))], [(a0.2.2.2.1, .inl (cA, o15.2.2.2.2.1.1, .inl o15.2.2.2.2.1.2))], [(a0.2.2.2.2.1, .inl (cA, o15.2.2.2.2.2.2.2.1.1, .inl o15.2.2.2.2.2.2.2.1.2))], [(a0.2.2.2.2.2, .inl (cA, o15.2.2.2.2.2.2.2.2.2.2.2.2.1.1, .inl o15.2.2.2.2.2.2.2.2.2.2.2.2.1.2))]]) hx hb hz hw 1 rfl g31 dX11_parsePlan_107 (by rw [ef32]; rfl) (fun H locs hw => ?_)
    refine lv_aload_n hx hb dX11_parsePlan_108 rfl (lv_at hl 0 rfl) ?_
    refine k_get (ci := 11) (v := .ref a0.2.1) (C := RX11) (T := TX11) (N := 14) hx hb hts hown hz hw (by decide +kernel) 0 rfl rfl 0 (by decide) (hts (.fieldLink RX11 7 "OccupancyMonitorModel" "all" "[I") (by decide +kernel)) (fun _ h9 => h9) rfl dX11_parsePlan_109 ?_
    refine lv_bipush (v := 8) hx hb dX11_parsePlan_112 (by decide) ?_
    refine lv_iconst (v := 0) hx hb dX11_parsePlan_114 (by decide) ?_
    obtain ⟨g33, hsp⟩ := grd_of hsp
    obtain ⟨f34, ef34⟩ : ∃ u : Nat → Int32, u = (upd f32 (8 : Int32).toNatClampNeg (0 : Int32)) := ⟨_, rfl⟩
    have hsp := lt_of hsp ef34
    refine k_iast (bs1 := [[(a0.1, .inr (11, [.ref a0.2.1, .ref a0.2.2.1, .int o15.2.2.1, .int o15.2.2.2.1, .ref a0.2.2.2.1, .int o15.2.2.2.2.2.1, .int o15.2.2.2.2.2.2.1, .ref a0.2.2.2.2.1, .int o15.2.2.2.2.2.2.2.2.1, .int o15.2.2.2.2.2.2.2.2.2.1, .int o15.2.2.2.2.2.2.2.2.2.2.1, .int o15.2.2.2.2.2.2.2.2.2.2.2.1, .ref a0.2.2.2.2.2, .int o15.2.2.2.2.2.2.2.2.2.2.2.2.2]))], [(a0.2.1, .inl (cA, o15.1.1, .inl f34))], [(a0.2.2.1, .inl (cA, o15.2.1.1, .inl o15.2.1.2))], [(a0.2.2.2.1, .inl (cA, o15.2.2.2.2.1.1, .inl o15.2.2.2.2.1.2))], [(a0.2.2.2.2.1, .inl (cA, o15.2.2.2.2.2.2.2.1.1, .inl o15.2.2.2.2.2.2.2.1.2))], [(a0.2.2.2.2.2, .inl (cA, o15.2.2.2.2.2.2.2.2.2.2.2.2.1.1, .inl o15.2.2.2.2.2.2.2.2.2.2.2.2.1.2))]]) hx hb hz hw 1 rfl g33 dX11_parsePlan_115 (by rw [ef34]; rfl) (fun H locs hw => ?_)
    refine lv_aload_n hx hb dX11_parsePlan_116 rfl (lv_at hl 0 rfl) ?_
    refine k_get (ci := 11) (v := .int o15.2.2.2.2.2.2.2.2.1) (C := RX11) (T := TX11) (N := 14) hx hb hts hown hz hw (by decide +kernel) 0 rfl rfl 8 (by decide) (hts (.fieldLink RX11 87 "OccupancyMonitorModel" "readMany" "I") (by decide +kernel)) (fun _ h9 => h9) rfl dX11_parsePlan_117 ?_
    have hsp := Option.some.inj hsp
    subst hsp
    have hw : ww A s.heap D [w11 cA a0 ((o15.1.1, f34), o15.2.1, o15.2.2.1, o15.2.2.2.1, o15.2.2.2.2.1, o15.2.2.2.2.2.1, o15.2.2.2.2.2.2.1, o15.2.2.2.2.2.2.2.1, o15.2.2.2.2.2.2.2.2.1, o15.2.2.2.2.2.2.2.2.2.1, o15.2.2.2.2.2.2.2.2.2.2.1, o15.2.2.2.2.2.2.2.2.2.2.2.1, o15.2.2.2.2.2.2.2.2.2.2.2.2.1, o15.2.2.2.2.2.2.2.2.2.2.2.2.2)] H locs := hw
    subst hQ
    exact k_iret hx hb hr hlk hw dX11_parsePlan_120
noncomputable def sX11_steps (v0 : V11) : Option (Int32 × V11) := (grd (vp_in (6 : Int32) v0.1.1) (some ((v0.1.2 (6 : Int32).toNatClampNeg), (v0.1, v0.2.1, v0.2.2.1, (0 : Int32), v0.2.2.2.2.1, v0.2.2.2.2.2.1, v0.2.2.2.2.2.2.1, v0.2.2.2.2.2.2.2.1, v0.2.2.2.2.2.2.2.2.1, v0.2.2.2.2.2.2.2.2.2.1, v0.2.2.2.2.2.2.2.2.2.2.1, v0.2.2.2.2.2.2.2.2.2.2.2.1, v0.2.2.2.2.2.2.2.2.2.2.2.2.1, v0.2.2.2.2.2.2.2.2.2.2.2.2.2))))
abbrev rX11_steps : Room := { frames := 0, cells := 0, slots := 0, locals := 0 }
set_option maxHeartbeats 4000000 in
set_option maxRecDepth 100000 in
theorem mX11_steps (l : Launch) (D : va_G) (cA cR : ClassId) (a0 : A11) (v0 : V11) (o : Int32 × V11) (hsp : sX11_steps v0 = some o) : MI l yX11_steps wsX11_steps rX11_steps D cA cR [.ref a0.1] [w11 cA a0 v0] (some (.int o.1)) [w11 cA a0 o.2] 0 0 := by
  have hsp : (grd (vp_in (6 : Int32) v0.1.1) (some ((v0.1.2 (6 : Int32).toNatClampNeg), (v0.1, v0.2.1, v0.2.2.1, (0 : Int32), v0.2.2.2.2.1, v0.2.2.2.2.2.1, v0.2.2.2.2.2.2.1, v0.2.2.2.2.2.2.2.1, v0.2.2.2.2.2.2.2.2.1, v0.2.2.2.2.2.2.2.2.2.1, v0.2.2.2.2.2.2.2.2.2.2.1, v0.2.2.2.2.2.2.2.2.2.2.2.1, v0.2.2.2.2.2.2.2.2.2.2.2.2.1, v0.2.2.2.2.2.2.2.2.2.2.2.2.2)))) = some o := hsp
  refine MI.ofW (cc := cX11_steps) (maxL := 1) (ret := (some .int)) (by decide) rfl (Nat.le_of_ble_eq_true rfl) ?_
  intro p e s m args below meth c A ls Q H locs hx hb hr hlk hml hown hnm hts hz hA hQ hw hl
  have hl : lv_has ls 1 [(0, .ref a0.1)] := hl
  have hw : ww A s.heap D [[(a0.1, .inr (11, [.ref a0.2.1, .ref a0.2.2.1, .int v0.2.2.1, .int v0.2.2.2.1, .ref a0.2.2.2.1, .int v0.2.2.2.2.2.1, .int v0.2.2.2.2.2.2.1, .ref a0.2.2.2.2.1, .int v0.2.2.2.2.2.2.2.2.1, .int v0.2.2.2.2.2.2.2.2.2.1, .int v0.2.2.2.2.2.2.2.2.2.2.1, .int v0.2.2.2.2.2.2.2.2.2.2.2.1, .ref a0.2.2.2.2.2, .int v0.2.2.2.2.2.2.2.2.2.2.2.2.2]))], [(a0.2.1, .inl (cA, v0.1.1, .inl v0.1.2))], [(a0.2.2.1, .inl (cA, v0.2.1.1, .inl v0.2.1.2))], [(a0.2.2.2.1, .inl (cA, v0.2.2.2.2.1.1, .inl v0.2.2.2.2.1.2))], [(a0.2.2.2.2.1, .inl (cA, v0.2.2.2.2.2.2.2.1.1, .inl v0.2.2.2.2.2.2.2.1.2))], [(a0.2.2.2.2.2, .inl (cA, v0.2.2.2.2.2.2.2.2.2.2.2.2.1.1, .inl v0.2.2.2.2.2.2.2.2.2.2.2.2.1.2))]] H locs := hw
  refine lv_aload_n hx hb dX11_steps_0 rfl (lv_at hl 0 rfl) ?_
  refine lv_iconst (v := 0) hx hb dX11_steps_1 (by decide) ?_
  refine k_put (ci := 11) (v := .int (0 : Int32)) (ty := .int) (C := RX11) (T := TX11) (N := 14) (bs1 := [[(a0.1, .inr (11, [.ref a0.2.1, .ref a0.2.2.1, .int v0.2.2.1, .int (0 : Int32), .ref a0.2.2.2.1, .int v0.2.2.2.2.2.1, .int v0.2.2.2.2.2.2.1, .ref a0.2.2.2.2.1, .int v0.2.2.2.2.2.2.2.2.1, .int v0.2.2.2.2.2.2.2.2.2.1, .int v0.2.2.2.2.2.2.2.2.2.2.1, .int v0.2.2.2.2.2.2.2.2.2.2.2.1, .ref a0.2.2.2.2.2, .int v0.2.2.2.2.2.2.2.2.2.2.2.2.2]))], [(a0.2.1, .inl (cA, v0.1.1, .inl v0.1.2))], [(a0.2.2.1, .inl (cA, v0.2.1.1, .inl v0.2.1.2))], [(a0.2.2.2.1, .inl (cA, v0.2.2.2.2.1.1, .inl v0.2.2.2.2.1.2))], [(a0.2.2.2.2.1, .inl (cA, v0.2.2.2.2.2.2.2.1.1, .inl v0.2.2.2.2.2.2.2.1.2))], [(a0.2.2.2.2.2, .inl (cA, v0.2.2.2.2.2.2.2.2.2.2.2.2.1.1, .inl v0.2.2.2.2.2.2.2.2.2.2.2.2.1.2))]]) hx hb hts hown hz hw (by decide +kernel) tyX11 tyX11_ok nmX11 0 rfl rfl 3 (by decide) (hts (.fieldLink RX11 28 "OccupancyMonitorModel" "thrown" "I") (by decide +kernel)) (fun _ h9 => h9) rfl (by decide +kernel) rfl rfl (Nat.le_of_ble_eq_true rfl) dX11_steps_2 rfl (fun H locs hw => ?_)
  refine lv_aload_n hx hb dX11_steps_5 rfl (lv_at hl 0 rfl) ?_
  refine k_get (ci := 11) (v := .ref a0.2.1) (C := RX11) (T := TX11) (N := 14) hx hb hts hown hz hw (by decide +kernel) 0 rfl rfl 0 (by decide) (hts (.fieldLink RX11 7 "OccupancyMonitorModel" "all" "[I") (by decide +kernel)) (fun _ h9 => h9) rfl dX11_steps_6 ?_
  refine lv_bipush (v := 6) hx hb dX11_steps_9 (by decide) ?_
  obtain ⟨g1, hsp⟩ := grd_of hsp
  refine k_iald hx hb hz hw 1 rfl g1 dX11_steps_11 ?_
  have hsp := Option.some.inj hsp
  subst hsp
  have hw : ww A s.heap D [w11 cA a0 (v0.1, v0.2.1, v0.2.2.1, (0 : Int32), v0.2.2.2.2.1, v0.2.2.2.2.2.1, v0.2.2.2.2.2.2.1, v0.2.2.2.2.2.2.2.1, v0.2.2.2.2.2.2.2.2.1, v0.2.2.2.2.2.2.2.2.2.1, v0.2.2.2.2.2.2.2.2.2.2.1, v0.2.2.2.2.2.2.2.2.2.2.2.1, v0.2.2.2.2.2.2.2.2.2.2.2.2.1, v0.2.2.2.2.2.2.2.2.2.2.2.2.2)] H locs := hw
  subst hQ
  exact k_iret hx hb hr hlk hw dX11_steps_12
noncomputable def sX11_step (v0 : V11) (p1 : Int32) (p2 : Int32) : Option (Int32 × V11) := (grd (vp_in (6 : Int32) v0.1.1) ((sX11_in p1.toInt64 (0 : Int64) (((v0.1.2 (6 : Int32).toNatClampNeg) - (1 : Int32)).toInt64)).bind (fun o2 => ((sX11_in p2.toInt64 (0 : Int64) (2 : Int64)).bind (fun o3 => ((sX11_goes v0 o2 o3).bind (fun o4 => (if o4.1 = 0 then (some ((0 : Int32), o4.2)) else (grd (vp_in (((70 : Int32) + ((3 : Int32) * p1)) + p2) o4.2.1.1) (some ((o4.2.1.2 (((70 : Int32) + ((3 : Int32) * p1)) + p2).toNatClampNeg), o4.2)))))))))))
abbrev rX11_step : Room := { frames := 1, cells := 0, slots := 0, locals := 25 }
set_option maxHeartbeats 4000000 in
set_option maxRecDepth 100000 in
theorem mX11_step (l : Launch) (D : va_G) (cA cR : ClassId) (a0 : A11) (v0 : V11) (p1 : Int32) (p2 : Int32) (o : Int32 × V11) (hsp : sX11_step v0 p1 p2 = some o) : MI l yX11_step wsX11_step rX11_step D cA cR [.ref a0.1, .int p1, .int p2] [w11 cA a0 v0] (some (.int o.1)) [w11 cA a0 o.2] 0 0 := by
  have hsp : (grd (vp_in (6 : Int32) v0.1.1) ((sX11_in p1.toInt64 (0 : Int64) (((v0.1.2 (6 : Int32).toNatClampNeg) - (1 : Int32)).toInt64)).bind (fun o2 => ((sX11_in p2.toInt64 (0 : Int64) (2 : Int64)).bind (fun o3 => ((sX11_goes v0 o2 o3).bind (fun o4 => (if o4.1 = 0 then (some ((0 : Int32), o4.2)) else (grd (vp_in (((70 : Int32) + ((3 : Int32) * p1)) + p2) o4.2.1.1) (some ((o4.2.1.2 (((70 : Int32) + ((3 : Int32) * p1)) + p2).toNatClampNeg), o4.2))))))))))) = some o := hsp
  refine MI.ofW (cc := cX11_step) (maxL := 3) (ret := (some .int)) (by decide) rfl (Nat.le_of_ble_eq_true rfl) ?_
  intro p e s m args below meth c A ls Q H locs hx hb hr hlk hml hown hnm hts hz hA hQ hw hl
  have hl : lv_has ls 3 [(0, .ref a0.1), (1, .int p1), (2, .int p2)] := hl
  have hw : ww A s.heap D [[(a0.1, .inr (11, [.ref a0.2.1, .ref a0.2.2.1, .int v0.2.2.1, .int v0.2.2.2.1, .ref a0.2.2.2.1, .int v0.2.2.2.2.2.1, .int v0.2.2.2.2.2.2.1, .ref a0.2.2.2.2.1, .int v0.2.2.2.2.2.2.2.2.1, .int v0.2.2.2.2.2.2.2.2.2.1, .int v0.2.2.2.2.2.2.2.2.2.2.1, .int v0.2.2.2.2.2.2.2.2.2.2.2.1, .ref a0.2.2.2.2.2, .int v0.2.2.2.2.2.2.2.2.2.2.2.2.2]))], [(a0.2.1, .inl (cA, v0.1.1, .inl v0.1.2))], [(a0.2.2.1, .inl (cA, v0.2.1.1, .inl v0.2.1.2))], [(a0.2.2.2.1, .inl (cA, v0.2.2.2.2.1.1, .inl v0.2.2.2.2.1.2))], [(a0.2.2.2.2.1, .inl (cA, v0.2.2.2.2.2.2.2.1.1, .inl v0.2.2.2.2.2.2.2.1.2))], [(a0.2.2.2.2.2, .inl (cA, v0.2.2.2.2.2.2.2.2.2.2.2.2.1.1, .inl v0.2.2.2.2.2.2.2.2.2.2.2.2.1.2))]] H locs := hw
  refine lv_aload_n hx hb dX11_step_0 rfl (lv_at hl 0 rfl) ?_
  refine lv_iload_n hx hb dX11_step_1 rfl (lv_at hl 1 rfl) ?_
  refine lv_i2l hx hb dX11_step_2 rfl ?_
  refine lv_lconst (v := 0) hx hb dX11_step_3 (by decide) ?_
  refine lv_aload_n hx hb dX11_step_4 rfl (lv_at hl 0 rfl) ?_
  refine k_get (ci := 11) (v := .ref a0.2.1) (C := RX11) (T := TX11) (N := 14) hx hb hts hown hz hw (by decide +kernel) 0 rfl rfl 0 (by decide) (hts (.fieldLink RX11 7 "OccupancyMonitorModel" "all" "[I") (by decide +kernel)) (fun _ h9 => h9) rfl dX11_step_5 ?_
  refine lv_bipush (v := 6) hx hb dX11_step_8 (by decide) ?_
  obtain ⟨g1, hsp⟩ := grd_of hsp
  refine k_iald hx hb hz hw 1 rfl g1 dX11_step_10 ?_
  refine lv_iconst (v := 1) hx hb dX11_step_11 (by decide) ?_
  refine lv_isub hx hb dX11_step_12 ?_
  refine lv_i2l hx hb dX11_step_13 rfl ?_
  obtain ⟨o2, hso2, hsp⟩ := bnd_of hsp
  refine k_callS (nA := 3) (As := [.long p1.toInt64, .long (0 : Int64), .long ((v0.1.2 (6 : Int32).toNatClampNeg) - (1 : Int32)).toInt64]) (cs := []) (rs := [[(a0.1, .inr (11, [.ref a0.2.1, .ref a0.2.2.1, .int v0.2.2.1, .int v0.2.2.2.1, .ref a0.2.2.2.1, .int v0.2.2.2.2.2.1, .int v0.2.2.2.2.2.2.1, .ref a0.2.2.2.2.1, .int v0.2.2.2.2.2.2.2.2.1, .int v0.2.2.2.2.2.2.2.2.2.1, .int v0.2.2.2.2.2.2.2.2.2.2.1, .int v0.2.2.2.2.2.2.2.2.2.2.2.1, .ref a0.2.2.2.2.2, .int v0.2.2.2.2.2.2.2.2.2.2.2.2.2]))], [(a0.2.1, .inl (cA, v0.1.1, .inl v0.1.2))], [(a0.2.2.1, .inl (cA, v0.2.1.1, .inl v0.2.1.2))], [(a0.2.2.2.1, .inl (cA, v0.2.2.2.2.1.1, .inl v0.2.2.2.2.1.2))], [(a0.2.2.2.2.1, .inl (cA, v0.2.2.2.2.2.2.2.1.1, .inl v0.2.2.2.2.2.2.2.1.2))], [(a0.2.2.2.2.2, .inl (cA, v0.2.2.2.2.2.2.2.2.2.2.2.2.1.1, .inl v0.2.2.2.2.2.2.2.2.2.2.2.2.1.2))]]) (cs1 := []) (bs1 := [[(a0.1, .inr (11, [.ref a0.2.1, .ref a0.2.2.1, .int v0.2.2.1, .int v0.2.2.2.1, .ref a0.2.2.2.1, .int v0.2.2.2.2.2.1, .int v0.2.2.2.2.2.2.1, .ref a0.2.2.2.2.1, .int v0.2.2.2.2.2.2.2.2.1, .int v0.2.2.2.2.2.2.2.2.2.1, .int v0.2.2.2.2.2.2.2.2.2.2.1, .int v0.2.2.2.2.2.2.2.2.2.2.2.1, .ref a0.2.2.2.2.2, .int v0.2.2.2.2.2.2.2.2.2.2.2.2.2]))], [(a0.2.1, .inl (cA, v0.1.1, .inl v0.1.2))], [(a0.2.2.1, .inl (cA, v0.2.1.1, .inl v0.2.1.2))], [(a0.2.2.2.1, .inl (cA, v0.2.2.2.2.1.1, .inl v0.2.2.2.2.1.2))], [(a0.2.2.2.2.1, .inl (cA, v0.2.2.2.2.2.2.2.1.1, .inl v0.2.2.2.2.2.2.2.1.2))], [(a0.2.2.2.2.2, .inl (cA, v0.2.2.2.2.2.2.2.2.2.2.2.2.1.1, .inl v0.2.2.2.2.2.2.2.2.2.2.2.2.1.2))]]) (rest := [.ref a0.1]) (st1 := [.int o2, .ref a0.1]) ⟨hx, hb, hml, hown, hts⟩ hz hw hA (mX11_in l D cA cR p1.toInt64 (0 : Int64) (((v0.1.2 (6 : Int32).toNatClampNeg) - (1 : Int32)).toInt64) o2 hso2) gX11_step_X11_in rfl rfl rfl (by decide +kernel) rfl ⟨Nat.le_of_ble_eq_true rfl, Nat.le_of_ble_eq_true rfl⟩ hl.1 rfl (Nat.le_of_ble_eq_true rfl) dX11_step_14 ⟨Nat.le_of_ble_eq_true rfl, Nat.le_of_ble_eq_true rfl⟩ [] [0, 1, 2, 3, 4, 5] [0, 1, 2, 3, 4, 5] rfl rfl rfl rfl rfl rfl (fun H locs hw => ?_)
  refine lv_iload_n hx hb dX11_step_17 rfl (lv_at hl 2 rfl) ?_
  refine lv_i2l hx hb dX11_step_18 rfl ?_
  refine lv_lconst (v := 0) hx hb dX11_step_19 (by decide) ?_
  refine lv_ldc2 hx hb hown (hts (.constantLong RX11 104 2) (by decide +kernel)) dX11_step_20 ?_
  obtain ⟨o3, hso3, hsp⟩ := bnd_of hsp
  refine k_callS (nA := 3) (As := [.long p2.toInt64, .long (0 : Int64), .long (2 : Int64)]) (cs := []) (rs := [[(a0.1, .inr (11, [.ref a0.2.1, .ref a0.2.2.1, .int v0.2.2.1, .int v0.2.2.2.1, .ref a0.2.2.2.1, .int v0.2.2.2.2.2.1, .int v0.2.2.2.2.2.2.1, .ref a0.2.2.2.2.1, .int v0.2.2.2.2.2.2.2.2.1, .int v0.2.2.2.2.2.2.2.2.2.1, .int v0.2.2.2.2.2.2.2.2.2.2.1, .int v0.2.2.2.2.2.2.2.2.2.2.2.1, .ref a0.2.2.2.2.2, .int v0.2.2.2.2.2.2.2.2.2.2.2.2.2]))], [(a0.2.1, .inl (cA, v0.1.1, .inl v0.1.2))], [(a0.2.2.1, .inl (cA, v0.2.1.1, .inl v0.2.1.2))], [(a0.2.2.2.1, .inl (cA, v0.2.2.2.2.1.1, .inl v0.2.2.2.2.1.2))], [(a0.2.2.2.2.1, .inl (cA, v0.2.2.2.2.2.2.2.1.1, .inl v0.2.2.2.2.2.2.2.1.2))], [(a0.2.2.2.2.2, .inl (cA, v0.2.2.2.2.2.2.2.2.2.2.2.2.1.1, .inl v0.2.2.2.2.2.2.2.2.2.2.2.2.1.2))]]) (cs1 := []) (bs1 := [[(a0.1, .inr (11, [.ref a0.2.1, .ref a0.2.2.1, .int v0.2.2.1, .int v0.2.2.2.1, .ref a0.2.2.2.1, .int v0.2.2.2.2.2.1, .int v0.2.2.2.2.2.2.1, .ref a0.2.2.2.2.1, .int v0.2.2.2.2.2.2.2.2.1, .int v0.2.2.2.2.2.2.2.2.2.1, .int v0.2.2.2.2.2.2.2.2.2.2.1, .int v0.2.2.2.2.2.2.2.2.2.2.2.1, .ref a0.2.2.2.2.2, .int v0.2.2.2.2.2.2.2.2.2.2.2.2.2]))], [(a0.2.1, .inl (cA, v0.1.1, .inl v0.1.2))], [(a0.2.2.1, .inl (cA, v0.2.1.1, .inl v0.2.1.2))], [(a0.2.2.2.1, .inl (cA, v0.2.2.2.2.1.1, .inl v0.2.2.2.2.1.2))], [(a0.2.2.2.2.1, .inl (cA, v0.2.2.2.2.2.2.2.1.1, .inl v0.2.2.2.2.2.2.2.1.2))], [(a0.2.2.2.2.2, .inl (cA, v0.2.2.2.2.2.2.2.2.2.2.2.2.1.1, .inl v0.2.2.2.2.2.2.2.2.2.2.2.2.1.2))]]) (rest := [.int o2, .ref a0.1]) (st1 := [.int o3, .int o2, .ref a0.1]) ⟨hx, hb, hml, hown, hts⟩ hz hw hA (mX11_in l D cA cR p2.toInt64 (0 : Int64) (2 : Int64) o3 hso3) gX11_step_X11_in rfl rfl rfl (by decide +kernel) rfl ⟨Nat.le_of_ble_eq_true rfl, Nat.le_of_ble_eq_true rfl⟩ hl.1 rfl (Nat.le_of_ble_eq_true rfl) dX11_step_23 ⟨Nat.le_of_ble_eq_true rfl, Nat.le_of_ble_eq_true rfl⟩ [] [0, 1, 2, 3, 4, 5] [0, 1, 2, 3, 4, 5] rfl rfl rfl rfl rfl rfl (fun H locs hw => ?_)
  have hw : ww A s.heap D [w11 cA a0 v0] H locs := hw
  obtain ⟨o4, hso4, hsp⟩ := bnd_of hsp
  refine k_callV (ci := 11) (C := RX11) (T := TX11) (N := 14) (nA := 2) (As := [.int o2, .int o3]) (cs := [w11 cA a0 v0]) (rs := []) (cs1 := [w11 cA a0 o4.2]) (bs1 := [w11 cA a0 o4.2]) (rest := []) (st1 := [.int o4.1]) ⟨hx, hb, hml, hown, hts⟩ hz hw hA (mX11_goes l D cA cR a0 v0 o2 o3 o4 hso4) gX11_step_X11_goes rfl rfl rfl (by decide +kernel) rfl ⟨Nat.le_of_ble_eq_true rfl, Nat.le_of_ble_eq_true rfl⟩ rfl rfl hl.1 rfl (Nat.le_of_ble_eq_true rfl) dX11_step_26 ⟨Nat.le_of_ble_eq_true rfl, Nat.le_of_ble_eq_true rfl⟩ [0] [] [0] rfl rfl rfl rfl rfl rfl (fun H locs hw => ?_)
  have hw : ww A s.heap D [[(a0.1, .inr (11, [.ref a0.2.1, .ref a0.2.2.1, .int o4.2.2.2.1, .int o4.2.2.2.2.1, .ref a0.2.2.2.1, .int o4.2.2.2.2.2.2.1, .int o4.2.2.2.2.2.2.2.1, .ref a0.2.2.2.2.1, .int o4.2.2.2.2.2.2.2.2.2.1, .int o4.2.2.2.2.2.2.2.2.2.2.1, .int o4.2.2.2.2.2.2.2.2.2.2.2.1, .int o4.2.2.2.2.2.2.2.2.2.2.2.2.1, .ref a0.2.2.2.2.2, .int o4.2.2.2.2.2.2.2.2.2.2.2.2.2.2]))], [(a0.2.1, .inl (cA, o4.2.1.1, .inl o4.2.1.2))], [(a0.2.2.1, .inl (cA, o4.2.2.1.1, .inl o4.2.2.1.2))], [(a0.2.2.2.1, .inl (cA, o4.2.2.2.2.2.1.1, .inl o4.2.2.2.2.2.1.2))], [(a0.2.2.2.2.1, .inl (cA, o4.2.2.2.2.2.2.2.2.1.1, .inl o4.2.2.2.2.2.2.2.2.1.2))], [(a0.2.2.2.2.2, .inl (cA, o4.2.2.2.2.2.2.2.2.2.2.2.2.2.1.1, .inl o4.2.2.2.2.2.2.2.2.2.2.2.2.2.1.2))]] H locs := hw
  refine lv_if_eq (tgt := 48) hx hb dX11_step_29 (by decide) (fun c5 => ?_) (fun c5 => ?_)
  · have hsp := ift c5 hsp
    refine lv_iconst (v := 0) hx hb dX11_step_48 (by decide) ?_
    have hsp := Option.some.inj hsp
    subst hsp
    have hw : ww A s.heap D [w11 cA a0 o4.2] H locs := hw
    subst hQ
    exact k_iret hx hb hr hlk hw dX11_step_49
  · have hsp := iff_ c5 hsp
    refine lv_aload_n hx hb dX11_step_32 rfl (lv_at hl 0 rfl) ?_
    refine k_get (ci := 11) (v := .ref a0.2.1) (C := RX11) (T := TX11) (N := 14) hx hb hts hown hz hw (by decide +kernel) 0 rfl rfl 0 (by decide) (hts (.fieldLink RX11 7 "OccupancyMonitorModel" "all" "[I") (by decide +kernel)) (fun _ h9 => h9) rfl dX11_step_33 ?_
    refine lv_bipush (v := 70) hx hb dX11_step_36 (by decide) ?_
    refine lv_iconst (v := 3) hx hb dX11_step_38 (by decide) ?_
    refine lv_iload_n hx hb dX11_step_39 rfl (lv_at hl 1 rfl) ?_
    refine lv_imul hx hb dX11_step_40 ?_
    refine lv_iadd hx hb dX11_step_41 ?_
    refine lv_iload_n hx hb dX11_step_42 rfl (lv_at hl 2 rfl) ?_
    refine lv_iadd hx hb dX11_step_43 ?_
    obtain ⟨g6, hsp⟩ := grd_of hsp
    refine k_iald hx hb hz hw 1 rfl g6 dX11_step_44 ?_
    refine lv_goto (tgt := 49) hx hb dX11_step_45 (by decide) ?_
    have hsp := Option.some.inj hsp
    subst hsp
    have hw : ww A s.heap D [w11 cA a0 o4.2] H locs := hw
    subst hQ
    exact k_iret hx hb hr hlk hw dX11_step_49
noncomputable def sX11_writes (v0 : V11) (p1 : Int32) : Option (V11) := (((if v0.2.2.2.2.2.2.2.2.2.2.1 = v0.2.2.2.2.2.2.2.2.2.1 then (some p1) else (some v0.2.2.2.2.2.2.2.2.2.2.2.1)) : Option (Int32)).bind (fun j2 => (some (v0.1, v0.2.1, v0.2.2.1, v0.2.2.2.1, v0.2.2.2.2.1, v0.2.2.2.2.2.1, v0.2.2.2.2.2.2.1, v0.2.2.2.2.2.2.2.1, v0.2.2.2.2.2.2.2.2.1, v0.2.2.2.2.2.2.2.2.2.1, (v0.2.2.2.2.2.2.2.2.2.2.1 + (1 : Int32)), j2, v0.2.2.2.2.2.2.2.2.2.2.2.2.1, v0.2.2.2.2.2.2.2.2.2.2.2.2.2))))
abbrev rX11_writes : Room := { frames := 0, cells := 0, slots := 0, locals := 0 }
set_option maxHeartbeats 4000000 in
set_option maxRecDepth 100000 in
theorem mX11_writes (l : Launch) (D : va_G) (cA cR : ClassId) (a0 : A11) (v0 : V11) (p1 : Int32) (o : V11) (hsp : sX11_writes v0 p1 = some o) : MI l yX11_writes wsX11_writes rX11_writes D cA cR [.ref a0.1, .int p1] [w11 cA a0 v0] none [w11 cA a0 o] 0 0 := by
  have hsp : (((if v0.2.2.2.2.2.2.2.2.2.2.1 = v0.2.2.2.2.2.2.2.2.2.1 then (some p1) else (some v0.2.2.2.2.2.2.2.2.2.2.2.1)) : Option (Int32)).bind (fun j2 => (some (v0.1, v0.2.1, v0.2.2.1, v0.2.2.2.1, v0.2.2.2.2.1, v0.2.2.2.2.2.1, v0.2.2.2.2.2.2.1, v0.2.2.2.2.2.2.2.1, v0.2.2.2.2.2.2.2.2.1, v0.2.2.2.2.2.2.2.2.2.1, (v0.2.2.2.2.2.2.2.2.2.2.1 + (1 : Int32)), j2, v0.2.2.2.2.2.2.2.2.2.2.2.2.1, v0.2.2.2.2.2.2.2.2.2.2.2.2.2)))) = some o := hsp
  refine MI.ofW (cc := cX11_writes) (maxL := 2) (ret := none) (by decide) rfl (Nat.le_of_ble_eq_true rfl) ?_
  intro p e s m args below meth c A ls Q H locs hx hb hr hlk hml hown hnm hts hz hA hQ hw hl
  have hl : lv_has ls 2 [(0, .ref a0.1), (1, .int p1)] := hl
  have hw : ww A s.heap D [[(a0.1, .inr (11, [.ref a0.2.1, .ref a0.2.2.1, .int v0.2.2.1, .int v0.2.2.2.1, .ref a0.2.2.2.1, .int v0.2.2.2.2.2.1, .int v0.2.2.2.2.2.2.1, .ref a0.2.2.2.2.1, .int v0.2.2.2.2.2.2.2.2.1, .int v0.2.2.2.2.2.2.2.2.2.1, .int v0.2.2.2.2.2.2.2.2.2.2.1, .int v0.2.2.2.2.2.2.2.2.2.2.2.1, .ref a0.2.2.2.2.2, .int v0.2.2.2.2.2.2.2.2.2.2.2.2.2]))], [(a0.2.1, .inl (cA, v0.1.1, .inl v0.1.2))], [(a0.2.2.1, .inl (cA, v0.2.1.1, .inl v0.2.1.2))], [(a0.2.2.2.1, .inl (cA, v0.2.2.2.2.1.1, .inl v0.2.2.2.2.1.2))], [(a0.2.2.2.2.1, .inl (cA, v0.2.2.2.2.2.2.2.1.1, .inl v0.2.2.2.2.2.2.2.1.2))], [(a0.2.2.2.2.2, .inl (cA, v0.2.2.2.2.2.2.2.2.2.2.2.2.1.1, .inl v0.2.2.2.2.2.2.2.2.2.2.2.2.1.2))]] H locs := hw
  refine lv_aload_n hx hb dX11_writes_0 rfl (lv_at hl 0 rfl) ?_
  refine lv_aload_n hx hb dX11_writes_1 rfl (lv_at hl 0 rfl) ?_
  refine k_get (ci := 11) (v := .int v0.2.2.2.2.2.2.2.2.2.2.1) (C := RX11) (T := TX11) (N := 14) hx hb hts hown hz hw (by decide +kernel) 0 rfl rfl 10 (by decide) (hts (.fieldLink RX11 106 "OccupancyMonitorModel" "written" "I") (by decide +kernel)) (fun _ h9 => h9) rfl dX11_writes_2 ?_
  refine lv_aload_n hx hb dX11_writes_5 rfl (lv_at hl 0 rfl) ?_
  refine k_get (ci := 11) (v := .int v0.2.2.2.2.2.2.2.2.2.1) (C := RX11) (T := TX11) (N := 14) hx hb hts hown hz hw (by decide +kernel) 0 rfl rfl 9 (by decide) (hts (.fieldLink RX11 109 "OccupancyMonitorModel" "sought" "I") (by decide +kernel)) (fun _ h9 => h9) rfl dX11_writes_6 ?_
  obtain ⟨j2, hsj2, hkj2⟩ := bnd_of hsp
  have Jj2 : ∀ (H : Heap) (locs : List Loc) (ls : Array Slot), ww A s.heap D [[(a0.1, .inr (11, [.ref a0.2.1, .ref a0.2.2.1, .int v0.2.2.1, .int v0.2.2.2.1, .ref a0.2.2.2.1, .int v0.2.2.2.2.2.1, .int v0.2.2.2.2.2.2.1, .ref a0.2.2.2.2.1, .int v0.2.2.2.2.2.2.2.2.1, .int v0.2.2.2.2.2.2.2.2.2.1, .int v0.2.2.2.2.2.2.2.2.2.2.1, .int v0.2.2.2.2.2.2.2.2.2.2.2.1, .ref a0.2.2.2.2.2, .int v0.2.2.2.2.2.2.2.2.2.2.2.2.2]))], [(a0.2.1, .inl (cA, v0.1.1, .inl v0.1.2))], [(a0.2.2.1, .inl (cA, v0.2.1.1, .inl v0.2.1.2))], [(a0.2.2.2.1, .inl (cA, v0.2.2.2.2.1.1, .inl v0.2.2.2.2.1.2))], [(a0.2.2.2.2.1, .inl (cA, v0.2.2.2.2.2.2.2.1.1, .inl v0.2.2.2.2.2.2.2.1.2))], [(a0.2.2.2.2.2, .inl (cA, v0.2.2.2.2.2.2.2.2.2.2.2.2.1.1, .inl v0.2.2.2.2.2.2.2.2.2.2.2.2.1.2))]] H locs → lv_has ls 2 [(0, .ref a0.1), (1, .int p1)] → W p l e rX11_writes s m args below meth c H locs 0 0 Q (F0 m 20 ls [.int j2, .ref a0.1]) := by
    intro H locs ls hw hl
    have hsp := hkj2
    refine k_put (ci := 11) (v := .int j2) (ty := .int) (C := RX11) (T := TX11) (N := 14) (bs1 := [[(a0.1, .inr (11, [.ref a0.2.1, .ref a0.2.2.1, .int v0.2.2.1, .int v0.2.2.2.1, .ref a0.2.2.2.1, .int v0.2.2.2.2.2.1, .int v0.2.2.2.2.2.2.1, .ref a0.2.2.2.2.1, .int v0.2.2.2.2.2.2.2.2.1, .int v0.2.2.2.2.2.2.2.2.2.1, .int v0.2.2.2.2.2.2.2.2.2.2.1, .int j2, .ref a0.2.2.2.2.2, .int v0.2.2.2.2.2.2.2.2.2.2.2.2.2]))], [(a0.2.1, .inl (cA, v0.1.1, .inl v0.1.2))], [(a0.2.2.1, .inl (cA, v0.2.1.1, .inl v0.2.1.2))], [(a0.2.2.2.1, .inl (cA, v0.2.2.2.2.1.1, .inl v0.2.2.2.2.1.2))], [(a0.2.2.2.2.1, .inl (cA, v0.2.2.2.2.2.2.2.1.1, .inl v0.2.2.2.2.2.2.2.1.2))], [(a0.2.2.2.2.2, .inl (cA, v0.2.2.2.2.2.2.2.2.2.2.2.2.1.1, .inl v0.2.2.2.2.2.2.2.2.2.2.2.2.1.2))]]) hx hb hts hown hz hw (by decide +kernel) tyX11 tyX11_ok nmX11 0 rfl rfl 11 (by decide) (hts (.fieldLink RX11 112 "OccupancyMonitorModel" "found" "I") (by decide +kernel)) (fun _ h9 => h9) rfl (by decide +kernel) rfl rfl (Nat.le_of_ble_eq_true rfl) dX11_writes_20 rfl (fun H locs hw => ?_)
    refine lv_aload_n hx hb dX11_writes_23 rfl (lv_at hl 0 rfl) ?_
    refine lv_dup hx hb dX11_writes_24 rfl ?_
    refine k_get (ci := 11) (v := .int v0.2.2.2.2.2.2.2.2.2.2.1) (C := RX11) (T := TX11) (N := 14) hx hb hts hown hz hw (by decide +kernel) 0 rfl rfl 10 (by decide) (hts (.fieldLink RX11 106 "OccupancyMonitorModel" "written" "I") (by decide +kernel)) (fun _ h9 => h9) rfl dX11_writes_25 ?_
    refine lv_iconst (v := 1) hx hb dX11_writes_28 (by decide) ?_
    refine lv_iadd hx hb dX11_writes_29 ?_
    refine k_put (ci := 11) (v := .int (v0.2.2.2.2.2.2.2.2.2.2.1 + (1 : Int32))) (ty := .int) (C := RX11) (T := TX11) (N := 14) (bs1 := [[(a0.1, .inr (11, [.ref a0.2.1, .ref a0.2.2.1, .int v0.2.2.1, .int v0.2.2.2.1, .ref a0.2.2.2.1, .int v0.2.2.2.2.2.1, .int v0.2.2.2.2.2.2.1, .ref a0.2.2.2.2.1, .int v0.2.2.2.2.2.2.2.2.1, .int v0.2.2.2.2.2.2.2.2.2.1, .int (v0.2.2.2.2.2.2.2.2.2.2.1 + (1 : Int32)), .int j2, .ref a0.2.2.2.2.2, .int v0.2.2.2.2.2.2.2.2.2.2.2.2.2]))], [(a0.2.1, .inl (cA, v0.1.1, .inl v0.1.2))], [(a0.2.2.1, .inl (cA, v0.2.1.1, .inl v0.2.1.2))], [(a0.2.2.2.1, .inl (cA, v0.2.2.2.2.1.1, .inl v0.2.2.2.2.1.2))], [(a0.2.2.2.2.1, .inl (cA, v0.2.2.2.2.2.2.2.1.1, .inl v0.2.2.2.2.2.2.2.1.2))], [(a0.2.2.2.2.2, .inl (cA, v0.2.2.2.2.2.2.2.2.2.2.2.2.1.1, .inl v0.2.2.2.2.2.2.2.2.2.2.2.2.1.2))]]) hx hb hts hown hz hw (by decide +kernel) tyX11 tyX11_ok nmX11 0 rfl rfl 10 (by decide) (hts (.fieldLink RX11 106 "OccupancyMonitorModel" "written" "I") (by decide +kernel)) (fun _ h9 => h9) rfl (by decide +kernel) rfl rfl (Nat.le_of_ble_eq_true rfl) dX11_writes_30 rfl (fun H locs hw => ?_)
    have hsp := Option.some.inj hsp
    subst hsp
    have hw : ww A s.heap D [w11 cA a0 (v0.1, v0.2.1, v0.2.2.1, v0.2.2.2.1, v0.2.2.2.2.1, v0.2.2.2.2.2.1, v0.2.2.2.2.2.2.1, v0.2.2.2.2.2.2.2.1, v0.2.2.2.2.2.2.2.2.1, v0.2.2.2.2.2.2.2.2.2.1, (v0.2.2.2.2.2.2.2.2.2.2.1 + (1 : Int32)), j2, v0.2.2.2.2.2.2.2.2.2.2.2.2.1, v0.2.2.2.2.2.2.2.2.2.2.2.2.2)] H locs := hw
    subst hQ
    exact k_vret hx hb hr hlk hw dX11_writes_33
  have hsp := hsj2
  refine lv_icmp_ne (tgt := 16) hx hb dX11_writes_9 (by decide) (fun c3 => ?_) (fun c3 => ?_)
  · have hsp := iff_ c3 hsp
    refine lv_aload_n hx hb dX11_writes_16 rfl (lv_at hl 0 rfl) ?_
    refine k_get (ci := 11) (v := .int v0.2.2.2.2.2.2.2.2.2.2.2.1) (C := RX11) (T := TX11) (N := 14) hx hb hts hown hz hw (by decide +kernel) 0 rfl rfl 11 (by decide) (hts (.fieldLink RX11 112 "OccupancyMonitorModel" "found" "I") (by decide +kernel)) (fun _ h9 => h9) rfl dX11_writes_17 ?_
    have hsp := Option.some.inj hsp
    subst hsp
    exact Jj2 _ _ _ hw (lv_sub hl [0, 1] rfl)
  · have hsp := ift c3 hsp
    refine lv_iload_n hx hb dX11_writes_12 rfl (lv_at hl 1 rfl) ?_
    refine lv_goto (tgt := 20) hx hb dX11_writes_13 (by decide) ?_
    have hsp := Option.some.inj hsp
    subst hsp
    exact Jj2 _ _ _ hw (lv_sub hl [0, 1] rfl)
noncomputable def sX11_writesNumber (v0 : V11) (p1 : Int32) : Option (V11) := (((if p1 ≤ (9 : Int32) then (some v0) else ((sX11_writes v0 ((48 : Int32) + (p1 / (10 : Int32)))).bind (fun o6 => (some o6)))) : Option (V11)).bind (fun j3 => ((sX11_writes j3 ((48 : Int32) + (p1 - p1 / (10 : Int32) * (10 : Int32)))).bind (fun o4 => (some o4)))))
abbrev rX11_writesNumber : Room := { frames := 1, cells := 0, slots := 0, locals := 21 }
set_option maxHeartbeats 4000000 in
set_option maxRecDepth 100000 in
theorem mX11_writesNumber (l : Launch) (D : va_G) (cA cR : ClassId) (a0 : A11) (v0 : V11) (p1 : Int32) (o : V11) (hsp : sX11_writesNumber v0 p1 = some o) : MI l yX11_writesNumber wsX11_writesNumber rX11_writesNumber D cA cR [.ref a0.1, .int p1] [w11 cA a0 v0] none [w11 cA a0 o] 0 0 := by
  have hsp : (((if p1 ≤ (9 : Int32) then (some v0) else ((sX11_writes v0 ((48 : Int32) + (p1 / (10 : Int32)))).bind (fun o6 => (some o6)))) : Option (V11)).bind (fun j3 => ((sX11_writes j3 ((48 : Int32) + (p1 - p1 / (10 : Int32) * (10 : Int32)))).bind (fun o4 => (some o4))))) = some o := hsp
  refine MI.ofW (cc := cX11_writesNumber) (maxL := 2) (ret := none) (by decide) rfl (Nat.le_of_ble_eq_true rfl) ?_
  intro p e s m args below meth c A ls Q H locs hx hb hr hlk hml hown hnm hts hz hA hQ hw hl
  have hl : lv_has ls 2 [(0, .ref a0.1), (1, .int p1)] := hl
  have hw : ww A s.heap D [w11 cA a0 v0] H locs := hw
  refine lv_iload_n hx hb dX11_writesNumber_0 rfl (lv_at hl 1 rfl) ?_
  refine lv_bipush (v := 9) hx hb dX11_writesNumber_1 (by decide) ?_
  obtain ⟨j3, hsj3, hkj3⟩ := bnd_of hsp
  have Jj3 : ∀ (H : Heap) (locs : List Loc) (ls : Array Slot), ww A s.heap D [w11 cA a0 j3] H locs → lv_has ls 2 [(0, .ref a0.1), (1, .int p1)] → W p l e rX11_writesNumber s m args below meth c H locs 0 0 Q (F0 m 17 ls []) := by
    intro H locs ls hw hl
    have hsp := hkj3
    refine lv_aload_n hx hb dX11_writesNumber_17 rfl (lv_at hl 0 rfl) ?_
    refine lv_bipush (v := 48) hx hb dX11_writesNumber_18 (by decide) ?_
    refine lv_iload_n hx hb dX11_writesNumber_20 rfl (lv_at hl 1 rfl) ?_
    refine lv_bipush (v := 10) hx hb dX11_writesNumber_21 (by decide) ?_
    refine lv_irem hx hb dX11_writesNumber_23 (by decide) ?_
    refine lv_iadd hx hb dX11_writesNumber_24 ?_
    obtain ⟨o4, hso4, hsp⟩ := bnd_of hsp
    refine k_callV (ci := 11) (C := RX11) (T := TX11) (N := 14) (nA := 1) (As := [.int ((48 : Int32) + (p1 - p1 / (10 : Int32) * (10 : Int32)))]) (cs := [w11 cA a0 j3]) (rs := []) (cs1 := [w11 cA a0 o4]) (bs1 := [w11 cA a0 o4]) (rest := []) (st1 := []) ⟨hx, hb, hml, hown, hts⟩ hz hw hA (mX11_writes l D cA cR a0 j3 ((48 : Int32) + (p1 - p1 / (10 : Int32) * (10 : Int32))) o4 hso4) gX11_writesNumber_X11_writes rfl rfl rfl (by decide +kernel) rfl ⟨Nat.le_of_ble_eq_true rfl, Nat.le_of_ble_eq_true rfl⟩ rfl rfl hl.1 rfl (Nat.le_of_ble_eq_true rfl) dX11_writesNumber_25 ⟨Nat.le_of_ble_eq_true rfl, Nat.le_of_ble_eq_true rfl⟩ [0] [] [0] rfl rfl rfl rfl rfl rfl (fun H locs hw => ?_)
    have hsp := Option.some.inj hsp
    subst hsp
    have hw : ww A s.heap D [w11 cA a0 o4] H locs := hw
    subst hQ
    exact k_vret hx hb hr hlk hw dX11_writesNumber_28
  have hsp := hsj3
  refine lv_icmp_le (tgt := 17) hx hb dX11_writesNumber_3 (by decide) (fun c5 => ?_) (fun c5 => ?_)
  · have hsp := ift c5 hsp
    have hsp := Option.some.inj hsp
    subst hsp
    exact Jj3 _ _ _ hw (lv_sub hl [0, 1] rfl)
  · have hsp := iff_ c5 hsp
    refine lv_aload_n hx hb dX11_writesNumber_6 rfl (lv_at hl 0 rfl) ?_
    refine lv_bipush (v := 48) hx hb dX11_writesNumber_7 (by decide) ?_
    refine lv_iload_n hx hb dX11_writesNumber_9 rfl (lv_at hl 1 rfl) ?_
    refine lv_bipush (v := 10) hx hb dX11_writesNumber_10 (by decide) ?_
    refine lv_idiv hx hb dX11_writesNumber_12 (by decide) ?_
    refine lv_iadd hx hb dX11_writesNumber_13 ?_
    obtain ⟨o6, hso6, hsp⟩ := bnd_of hsp
    refine k_callV (ci := 11) (C := RX11) (T := TX11) (N := 14) (nA := 1) (As := [.int ((48 : Int32) + (p1 / (10 : Int32)))]) (cs := [w11 cA a0 v0]) (rs := []) (cs1 := [w11 cA a0 o6]) (bs1 := [w11 cA a0 o6]) (rest := []) (st1 := []) ⟨hx, hb, hml, hown, hts⟩ hz hw hA (mX11_writes l D cA cR a0 v0 ((48 : Int32) + (p1 / (10 : Int32))) o6 hso6) gX11_writesNumber_X11_writes rfl rfl rfl (by decide +kernel) rfl ⟨Nat.le_of_ble_eq_true rfl, Nat.le_of_ble_eq_true rfl⟩ rfl rfl hl.1 rfl (Nat.le_of_ble_eq_true rfl) dX11_writesNumber_14 ⟨Nat.le_of_ble_eq_true rfl, Nat.le_of_ble_eq_true rfl⟩ [0] [] [0] rfl rfl rfl rfl rfl rfl (fun H locs hw => ?_)
    have hsp := Option.some.inj hsp
    subst hsp
    exact Jj3 _ _ _ hw (lv_sub hl [0, 1] rfl)
noncomputable def qX11_planByte_36  : Nat → Int32 → Nat → (Nat → Int32) → Nat → (Nat → Int32) → Int32 → Int32 → Nat → (Nat → Int32) → Int32 → Int32 → Nat → (Nat → Int32) → Int32 → Int32 → Int32 → Int32 → Nat → (Nat → Int32) → Int32 → Option (Int32 × Nat × (Nat → Int32) × Nat × (Nat → Int32) × Int32 × Int32 × Nat × (Nat → Int32) × Int32 × Int32 × Nat × (Nat → Int32) × Int32 × Int32 × Int32 × Int32 × Nat × (Nat → Int32) × Int32)
  | 0, _, _, _, _, _, _, _, _, _, _, _, _, _, _, _, _, _, _, _, _ => none
  | n36 + 1, z36_0, z36_1, z36_2, z36_3, z36_4, z36_5, z36_6, z36_7, z36_8, z36_9, z36_10, z36_11, z36_12, z36_13, z36_14, z36_15, z36_16, z36_17, z36_18, z36_19 => (grd (vp_in (6 : Int32) z36_1) (if (z36_2 (6 : Int32).toNatClampNeg) ≤ z36_0 then (some (z36_0, z36_1, z36_2, z36_3, z36_4, z36_5, z36_6, z36_7, z36_8, z36_9, z36_10, z36_11, z36_12, z36_13, z36_14, z36_15, z36_16, z36_17, z36_18, z36_19)) else (grd (vp_in ((70 : Int32) + ((3 : Int32) * z36_0)) z36_1) ((sX11_writesNumber ((z36_1, z36_2), (z36_3, z36_4), z36_5, z36_6, (z36_7, z36_8), z36_9, z36_10, (z36_11, z36_12), z36_13, z36_14, z36_15, z36_16, (z36_17, z36_18), z36_19) (z36_2 ((70 : Int32) + ((3 : Int32) * z36_0)).toNatClampNeg)).bind (fun o47 => (grd (vp_in (((70 : Int32) + ((3 : Int32) * z36_0)) + (1 : Int32)) o47.1.1) (grd (vp_in ((70 : Int32) + ((3 : Int32) * z36_0)) o47.1.1) (((if (o47.1.2 (((70 : Int32) + ((3 : Int32) * z36_0)) + (1 : Int32)).toNatClampNeg) = (o47.1.2 ((70 : Int32) + ((3 : Int32) * z36_0)).toNatClampNeg) then (some (o47.1.1, o47.1.2, o47.2.1.1, o47.2.1.2, o47.2.2.1, o47.2.2.2.1, o47.2.2.2.2.1.1, o47.2.2.2.2.1.2, o47.2.2.2.2.2.1, o47.2.2.2.2.2.2.1, o47.2.2.2.2.2.2.2.1.1, o47.2.2.2.2.2.2.2.1.2, o47.2.2.2.2.2.2.2.2.1, o47.2.2.2.2.2.2.2.2.2.1, o47.2.2.2.2.2.2.2.2.2.2.1, o47.2.2.2.2.2.2.2.2.2.2.2.1, o47.2.2.2.2.2.2.2.2.2.2.2.2.1.1, o47.2.2.2.2.2.2.2.2.2.2.2.2.1.2, o47.2.2.2.2.2.2.2.2.2.2.2.2.2)) else ((sX11_writes o47 (45 : Int32)).bind (fun o60 => (grd (vp_in (((70 : Int32) + ((3 : Int32) * z36_0)) + (1 : Int32)) o60.1.1) ((sX11_writesNumber o60 (o60.1.2 (((70 : Int32) + ((3 : Int32) * z36_0)) + (1 : Int32)).toNatClampNeg)).bind (fun o62 => (some (o62.1.1, o62.1.2, o62.2.1.1, o62.2.1.2, o62.2.2.1, o62.2.2.2.1, o62.2.2.2.2.1.1, o62.2.2.2.2.1.2, o62.2.2.2.2.2.1, o62.2.2.2.2.2.2.1, o62.2.2.2.2.2.2.2.1.1, o62.2.2.2.2.2.2.2.1.2, o62.2.2.2.2.2.2.2.2.1, o62.2.2.2.2.2.2.2.2.2.1, o62.2.2.2.2.2.2.2.2.2.2.1, o62.2.2.2.2.2.2.2.2.2.2.2.1, o62.2.2.2.2.2.2.2.2.2.2.2.2.1.1, o62.2.2.2.2.2.2.2.2.2.2.2.2.1.2, o62.2.2.2.2.2.2.2.2.2.2.2.2.2)))))))) : Option (Nat × (Nat → Int32) × Nat × (Nat → Int32) × Int32 × Int32 × Nat × (Nat → Int32) × Int32 × Int32 × Nat × (Nat → Int32) × Int32 × Int32 × Int32 × Int32 × Nat × (Nat → Int32) × Int32)).bind (fun j54 => ((sX11_writes ((j54.1, j54.2.1), (j54.2.2.1, j54.2.2.2.1), j54.2.2.2.2.1, j54.2.2.2.2.2.1, (j54.2.2.2.2.2.2.1, j54.2.2.2.2.2.2.2.1), j54.2.2.2.2.2.2.2.2.1, j54.2.2.2.2.2.2.2.2.2.1, (j54.2.2.2.2.2.2.2.2.2.2.1, j54.2.2.2.2.2.2.2.2.2.2.2.1), j54.2.2.2.2.2.2.2.2.2.2.2.2.1, j54.2.2.2.2.2.2.2.2.2.2.2.2.2.1, j54.2.2.2.2.2.2.2.2.2.2.2.2.2.2.1, j54.2.2.2.2.2.2.2.2.2.2.2.2.2.2.2.1, (j54.2.2.2.2.2.2.2.2.2.2.2.2.2.2.2.2.1, j54.2.2.2.2.2.2.2.2.2.2.2.2.2.2.2.2.2.1), j54.2.2.2.2.2.2.2.2.2.2.2.2.2.2.2.2.2.2) (58 : Int32)).bind (fun o55 => (grd (vp_in (((70 : Int32) + ((3 : Int32) * z36_0)) + (2 : Int32)) o55.1.1) ((sX11_writesNumber o55 (o55.1.2 (((70 : Int32) + ((3 : Int32) * z36_0)) + (2 : Int32)).toNatClampNeg)).bind (fun o57 => ((sX11_writes o57 (59 : Int32)).bind (fun o58 => (qX11_planByte_36 n36 (z36_0 + 1) o58.1.1 o58.1.2 o58.2.1.1 o58.2.1.2 o58.2.2.1 o58.2.2.2.1 o58.2.2.2.2.1.1 o58.2.2.2.2.1.2 o58.2.2.2.2.2.1 o58.2.2.2.2.2.2.1 o58.2.2.2.2.2.2.2.1.1 o58.2.2.2.2.2.2.2.1.2 o58.2.2.2.2.2.2.2.2.1 o58.2.2.2.2.2.2.2.2.2.1 o58.2.2.2.2.2.2.2.2.2.2.1 o58.2.2.2.2.2.2.2.2.2.2.2.1 o58.2.2.2.2.2.2.2.2.2.2.2.2.1.1 o58.2.2.2.2.2.2.2.2.2.2.2.2.1.2 o58.2.2.2.2.2.2.2.2.2.2.2.2.2)))))))))))))))))
noncomputable def sX11_planByte (N : Nat) (v0 : V11) (p1 : Int32) : Option (Int32 × V11) := (((if p1 < 0 then (some (0 : Int32)) else (some (1 : Int32))) : Option (Int32)).bind (fun j2 => ((sX11_goes v0 j2 (1 : Int32)).bind (fun o3 => (if o3.1 = 0 then (some ((0 : Int32), o3.2)) else ((qX11_planByte_36 N (0 : Int32) o3.2.1.1 o3.2.1.2 o3.2.2.1.1 o3.2.2.1.2 o3.2.2.2.1 o3.2.2.2.2.1 o3.2.2.2.2.2.1.1 o3.2.2.2.2.2.1.2 o3.2.2.2.2.2.2.1 o3.2.2.2.2.2.2.2.1 o3.2.2.2.2.2.2.2.2.1.1 o3.2.2.2.2.2.2.2.2.1.2 o3.2.2.2.2.2.2.2.2.2.1 p1 (0 : Int32) (-1 : Int32) o3.2.2.2.2.2.2.2.2.2.2.2.2.2.1.1 o3.2.2.2.2.2.2.2.2.2.2.2.2.2.1.2 o3.2.2.2.2.2.2.2.2.2.2.2.2.2.2).bind (fun o43 => (some (o43.2.2.2.2.2.2.2.2.2.2.2.2.2.2.2.2.1, ((o43.2.1, o43.2.2.1), (o43.2.2.2.1, o43.2.2.2.2.1), o43.2.2.2.2.2.1, o43.2.2.2.2.2.2.1, (o43.2.2.2.2.2.2.2.1, o43.2.2.2.2.2.2.2.2.1), o43.2.2.2.2.2.2.2.2.2.1, o43.2.2.2.2.2.2.2.2.2.2.1, (o43.2.2.2.2.2.2.2.2.2.2.2.1, o43.2.2.2.2.2.2.2.2.2.2.2.2.1), o43.2.2.2.2.2.2.2.2.2.2.2.2.2.1, o43.2.2.2.2.2.2.2.2.2.2.2.2.2.2.1, o43.2.2.2.2.2.2.2.2.2.2.2.2.2.2.2.1, o43.2.2.2.2.2.2.2.2.2.2.2.2.2.2.2.2.1, (o43.2.2.2.2.2.2.2.2.2.2.2.2.2.2.2.2.2.1, o43.2.2.2.2.2.2.2.2.2.2.2.2.2.2.2.2.2.2.1), o43.2.2.2.2.2.2.2.2.2.2.2.2.2.2.2.2.2.2.2))))))))))
abbrev rX11_planByte : Room := { frames := 2, cells := 0, slots := 0, locals := 42 }
set_option maxHeartbeats 4000000 in
set_option maxRecDepth 100000 in
theorem mX11_planByte (l : Launch) (D : va_G) (cA cR : ClassId) (N : Nat) (a0 : A11) (v0 : V11) (p1 : Int32) (o : Int32 × V11) (hsp : sX11_planByte N v0 p1 = some o) : MI l yX11_planByte wsX11_planByte rX11_planByte D cA cR [.ref a0.1, .int p1] [w11 cA a0 v0] (some (.int o.1)) [w11 cA a0 o.2] 0 0 := by
  have hsp : (((if p1 < 0 then (some (0 : Int32)) else (some (1 : Int32))) : Option (Int32)).bind (fun j2 => ((sX11_goes v0 j2 (1 : Int32)).bind (fun o3 => (if o3.1 = 0 then (some ((0 : Int32), o3.2)) else ((qX11_planByte_36 N (0 : Int32) o3.2.1.1 o3.2.1.2 o3.2.2.1.1 o3.2.2.1.2 o3.2.2.2.1 o3.2.2.2.2.1 o3.2.2.2.2.2.1.1 o3.2.2.2.2.2.1.2 o3.2.2.2.2.2.2.1 o3.2.2.2.2.2.2.2.1 o3.2.2.2.2.2.2.2.2.1.1 o3.2.2.2.2.2.2.2.2.1.2 o3.2.2.2.2.2.2.2.2.2.1 p1 (0 : Int32) (-1 : Int32) o3.2.2.2.2.2.2.2.2.2.2.2.2.2.1.1 o3.2.2.2.2.2.2.2.2.2.2.2.2.2.1.2 o3.2.2.2.2.2.2.2.2.2.2.2.2.2.2).bind (fun o43 => (some (o43.2.2.2.2.2.2.2.2.2.2.2.2.2.2.2.2.1, ((o43.2.1, o43.2.2.1), (o43.2.2.2.1, o43.2.2.2.2.1), o43.2.2.2.2.2.1, o43.2.2.2.2.2.2.1, (o43.2.2.2.2.2.2.2.1, o43.2.2.2.2.2.2.2.2.1), o43.2.2.2.2.2.2.2.2.2.1, o43.2.2.2.2.2.2.2.2.2.2.1, (o43.2.2.2.2.2.2.2.2.2.2.2.1, o43.2.2.2.2.2.2.2.2.2.2.2.2.1), o43.2.2.2.2.2.2.2.2.2.2.2.2.2.1, o43.2.2.2.2.2.2.2.2.2.2.2.2.2.2.1, o43.2.2.2.2.2.2.2.2.2.2.2.2.2.2.2.1, o43.2.2.2.2.2.2.2.2.2.2.2.2.2.2.2.2.1, (o43.2.2.2.2.2.2.2.2.2.2.2.2.2.2.2.2.2.1, o43.2.2.2.2.2.2.2.2.2.2.2.2.2.2.2.2.2.2.1), o43.2.2.2.2.2.2.2.2.2.2.2.2.2.2.2.2.2.2.2)))))))))) = some o := hsp
  refine MI.ofW (cc := cX11_planByte) (maxL := 4) (ret := (some .int)) (by decide) rfl (Nat.le_of_ble_eq_true rfl) ?_
  intro p e s m args below meth c A ls Q H locs hx hb hr hlk hml hown hnm hts hz hA hQ hw hl
  have hl : lv_has ls 4 [(0, .ref a0.1), (1, .int p1)] := hl
  have hw : ww A s.heap D [[(a0.1, .inr (11, [.ref a0.2.1, .ref a0.2.2.1, .int v0.2.2.1, .int v0.2.2.2.1, .ref a0.2.2.2.1, .int v0.2.2.2.2.2.1, .int v0.2.2.2.2.2.2.1, .ref a0.2.2.2.2.1, .int v0.2.2.2.2.2.2.2.2.1, .int v0.2.2.2.2.2.2.2.2.2.1, .int v0.2.2.2.2.2.2.2.2.2.2.1, .int v0.2.2.2.2.2.2.2.2.2.2.2.1, .ref a0.2.2.2.2.2, .int v0.2.2.2.2.2.2.2.2.2.2.2.2.2]))], [(a0.2.1, .inl (cA, v0.1.1, .inl v0.1.2))], [(a0.2.2.1, .inl (cA, v0.2.1.1, .inl v0.2.1.2))], [(a0.2.2.2.1, .inl (cA, v0.2.2.2.2.1.1, .inl v0.2.2.2.2.1.2))], [(a0.2.2.2.2.1, .inl (cA, v0.2.2.2.2.2.2.2.1.1, .inl v0.2.2.2.2.2.2.2.1.2))], [(a0.2.2.2.2.2, .inl (cA, v0.2.2.2.2.2.2.2.2.2.2.2.2.1.1, .inl v0.2.2.2.2.2.2.2.2.2.2.2.2.1.2))]] H locs := hw
  refine lv_aload_n hx hb dX11_planByte_0 rfl (lv_at hl 0 rfl) ?_
  refine lv_iload_n hx hb dX11_planByte_1 rfl (lv_at hl 1 rfl) ?_
  obtain ⟨j2, hsj2, hkj2⟩ := bnd_of hsp
  have Jj2 : ∀ (H : Heap) (locs : List Loc) (ls : Array Slot), ww A s.heap D [[(a0.1, .inr (11, [.ref a0.2.1, .ref a0.2.2.1, .int v0.2.2.1, .int v0.2.2.2.1, .ref a0.2.2.2.1, .int v0.2.2.2.2.2.1, .int v0.2.2.2.2.2.2.1, .ref a0.2.2.2.2.1, .int v0.2.2.2.2.2.2.2.2.1, .int v0.2.2.2.2.2.2.2.2.2.1, .int v0.2.2.2.2.2.2.2.2.2.2.1, .int v0.2.2.2.2.2.2.2.2.2.2.2.1, .ref a0.2.2.2.2.2, .int v0.2.2.2.2.2.2.2.2.2.2.2.2.2]))], [(a0.2.1, .inl (cA, v0.1.1, .inl v0.1.2))], [(a0.2.2.1, .inl (cA, v0.2.1.1, .inl v0.2.1.2))], [(a0.2.2.2.1, .inl (cA, v0.2.2.2.2.1.1, .inl v0.2.2.2.2.1.2))], [(a0.2.2.2.2.1, .inl (cA, v0.2.2.2.2.2.2.2.1.1, .inl v0.2.2.2.2.2.2.2.1.2))], [(a0.2.2.2.2.2, .inl (cA, v0.2.2.2.2.2.2.2.2.2.2.2.2.1.1, .inl v0.2.2.2.2.2.2.2.2.2.2.2.2.1.2))]] H locs → lv_has ls 4 [(0, .ref a0.1), (1, .int p1)] → W p l e rX11_planByte s m args below meth c H locs 0 0 Q (F0 m 10 ls [.int j2, .ref a0.1]) := by
    intro H locs ls hw hl
    have hsp := hkj2
    refine lv_iconst (v := 1) hx hb dX11_planByte_10 (by decide) ?_
    have hw : ww A s.heap D [w11 cA a0 v0] H locs := hw
    obtain ⟨o3, hso3, hsp⟩ := bnd_of hsp
    refine k_callV (ci := 11) (C := RX11) (T := TX11) (N := 14) (nA := 2) (As := [.int j2, .int (1 : Int32)]) (cs := [w11 cA a0 v0]) (rs := []) (cs1 := [w11 cA a0 o3.2]) (bs1 := [w11 cA a0 o3.2]) (rest := []) (st1 := [.int o3.1]) ⟨hx, hb, hml, hown, hts⟩ hz hw hA (mX11_goes l D cA cR a0 v0 j2 (1 : Int32) o3 hso3) gX11_planByte_X11_goes rfl rfl rfl (by decide +kernel) rfl ⟨Nat.le_of_ble_eq_true rfl, Nat.le_of_ble_eq_true rfl⟩ rfl rfl hl.1 rfl (Nat.le_of_ble_eq_true rfl) dX11_planByte_11 ⟨Nat.le_of_ble_eq_true rfl, Nat.le_of_ble_eq_true rfl⟩ [0] [] [0] rfl rfl rfl rfl rfl rfl (fun H locs hw => ?_)
    have hw : ww A s.heap D [[(a0.1, .inr (11, [.ref a0.2.1, .ref a0.2.2.1, .int o3.2.2.2.1, .int o3.2.2.2.2.1, .ref a0.2.2.2.1, .int o3.2.2.2.2.2.2.1, .int o3.2.2.2.2.2.2.2.1, .ref a0.2.2.2.2.1, .int o3.2.2.2.2.2.2.2.2.2.1, .int o3.2.2.2.2.2.2.2.2.2.2.1, .int o3.2.2.2.2.2.2.2.2.2.2.2.1, .int o3.2.2.2.2.2.2.2.2.2.2.2.2.1, .ref a0.2.2.2.2.2, .int o3.2.2.2.2.2.2.2.2.2.2.2.2.2.2]))], [(a0.2.1, .inl (cA, o3.2.1.1, .inl o3.2.1.2))], [(a0.2.2.1, .inl (cA, o3.2.2.1.1, .inl o3.2.2.1.2))], [(a0.2.2.2.1, .inl (cA, o3.2.2.2.2.2.1.1, .inl o3.2.2.2.2.2.1.2))], [(a0.2.2.2.2.1, .inl (cA, o3.2.2.2.2.2.2.2.2.1.1, .inl o3.2.2.2.2.2.2.2.2.1.2))], [(a0.2.2.2.2.2, .inl (cA, o3.2.2.2.2.2.2.2.2.2.2.2.2.2.1.1, .inl o3.2.2.2.2.2.2.2.2.2.2.2.2.2.1.2))]] H locs := hw
    refine lv_if_ne (tgt := 19) hx hb dX11_planByte_14 (by decide) (fun c4 => ?_) (fun c4 => ?_)
    · have hsp := iff_ c4 hsp
      refine lv_aload_n hx hb dX11_planByte_19 rfl (lv_at hl 0 rfl) ?_
      refine lv_iload_n hx hb dX11_planByte_20 rfl (lv_at hl 1 rfl) ?_
      refine k_put (ci := 11) (v := .int p1) (ty := .int) (C := RX11) (T := TX11) (N := 14) (bs1 := [[(a0.1, .inr (11, [.ref a0.2.1, .ref a0.2.2.1, .int o3.2.2.2.1, .int o3.2.2.2.2.1, .ref a0.2.2.2.1, .int o3.2.2.2.2.2.2.1, .int o3.2.2.2.2.2.2.2.1, .ref a0.2.2.2.2.1, .int o3.2.2.2.2.2.2.2.2.2.1, .int p1, .int o3.2.2.2.2.2.2.2.2.2.2.2.1, .int o3.2.2.2.2.2.2.2.2.2.2.2.2.1, .ref a0.2.2.2.2.2, .int o3.2.2.2.2.2.2.2.2.2.2.2.2.2.2]))], [(a0.2.1, .inl (cA, o3.2.1.1, .inl o3.2.1.2))], [(a0.2.2.1, .inl (cA, o3.2.2.1.1, .inl o3.2.2.1.2))], [(a0.2.2.2.1, .inl (cA, o3.2.2.2.2.2.1.1, .inl o3.2.2.2.2.2.1.2))], [(a0.2.2.2.2.1, .inl (cA, o3.2.2.2.2.2.2.2.2.1.1, .inl o3.2.2.2.2.2.2.2.2.1.2))], [(a0.2.2.2.2.2, .inl (cA, o3.2.2.2.2.2.2.2.2.2.2.2.2.2.1.1, .inl o3.2.2.2.2.2.2.2.2.2.2.2.2.2.1.2))]]) hx hb hts hown hz hw (by decide +kernel) tyX11 tyX11_ok nmX11 0 rfl rfl 9 (by decide) (hts (.fieldLink RX11 109 "OccupancyMonitorModel" "sought" "I") (by decide +kernel)) (fun _ h9 => h9) rfl (by decide +kernel) rfl rfl (Nat.le_of_ble_eq_true rfl) dX11_planByte_21 rfl (fun H locs hw => ?_)
      refine lv_aload_n hx hb dX11_planByte_24 rfl (lv_at hl 0 rfl) ?_
      refine lv_iconst (v := 0) hx hb dX11_planByte_25 (by decide) ?_
      refine k_put (ci := 11) (v := .int (0 : Int32)) (ty := .int) (C := RX11) (T := TX11) (N := 14) (bs1 := [[(a0.1, .inr (11, [.ref a0.2.1, .ref a0.2.2.1, .int o3.2.2.2.1, .int o3.2.2.2.2.1, .ref a0.2.2.2.1, .int o3.2.2.2.2.2.2.1, .int o3.2.2.2.2.2.2.2.1, .ref a0.2.2.2.2.1, .int o3.2.2.2.2.2.2.2.2.2.1, .int p1, .int (0 : Int32), .int o3.2.2.2.2.2.2.2.2.2.2.2.2.1, .ref a0.2.2.2.2.2, .int o3.2.2.2.2.2.2.2.2.2.2.2.2.2.2]))], [(a0.2.1, .inl (cA, o3.2.1.1, .inl o3.2.1.2))], [(a0.2.2.1, .inl (cA, o3.2.2.1.1, .inl o3.2.2.1.2))], [(a0.2.2.2.1, .inl (cA, o3.2.2.2.2.2.1.1, .inl o3.2.2.2.2.2.1.2))], [(a0.2.2.2.2.1, .inl (cA, o3.2.2.2.2.2.2.2.2.1.1, .inl o3.2.2.2.2.2.2.2.2.1.2))], [(a0.2.2.2.2.2, .inl (cA, o3.2.2.2.2.2.2.2.2.2.2.2.2.2.1.1, .inl o3.2.2.2.2.2.2.2.2.2.2.2.2.2.1.2))]]) hx hb hts hown hz hw (by decide +kernel) tyX11 tyX11_ok nmX11 0 rfl rfl 10 (by decide) (hts (.fieldLink RX11 106 "OccupancyMonitorModel" "written" "I") (by decide +kernel)) (fun _ h9 => h9) rfl (by decide +kernel) rfl rfl (Nat.le_of_ble_eq_true rfl) dX11_planByte_26 rfl (fun H locs hw => ?_)
      refine lv_aload_n hx hb dX11_planByte_29 rfl (lv_at hl 0 rfl) ?_
      refine lv_iconst (v := -1) hx hb dX11_planByte_30 (by decide) ?_
      refine k_put (ci := 11) (v := .int (-1 : Int32)) (ty := .int) (C := RX11) (T := TX11) (N := 14) (bs1 := [[(a0.1, .inr (11, [.ref a0.2.1, .ref a0.2.2.1, .int o3.2.2.2.1, .int o3.2.2.2.2.1, .ref a0.2.2.2.1, .int o3.2.2.2.2.2.2.1, .int o3.2.2.2.2.2.2.2.1, .ref a0.2.2.2.2.1, .int o3.2.2.2.2.2.2.2.2.2.1, .int p1, .int (0 : Int32), .int (-1 : Int32), .ref a0.2.2.2.2.2, .int o3.2.2.2.2.2.2.2.2.2.2.2.2.2.2]))], [(a0.2.1, .inl (cA, o3.2.1.1, .inl o3.2.1.2))], [(a0.2.2.1, .inl (cA, o3.2.2.1.1, .inl o3.2.2.1.2))], [(a0.2.2.2.1, .inl (cA, o3.2.2.2.2.2.1.1, .inl o3.2.2.2.2.2.1.2))], [(a0.2.2.2.2.1, .inl (cA, o3.2.2.2.2.2.2.2.2.1.1, .inl o3.2.2.2.2.2.2.2.2.1.2))], [(a0.2.2.2.2.2, .inl (cA, o3.2.2.2.2.2.2.2.2.2.2.2.2.2.1.1, .inl o3.2.2.2.2.2.2.2.2.2.2.2.2.2.1.2))]]) hx hb hts hown hz hw (by decide +kernel) tyX11 tyX11_ok nmX11 0 rfl rfl 11 (by decide) (hts (.fieldLink RX11 112 "OccupancyMonitorModel" "found" "I") (by decide +kernel)) (fun _ h9 => h9) rfl (by decide +kernel) rfl rfl (Nat.le_of_ble_eq_true rfl) dX11_planByte_31 rfl (fun H locs hw => ?_)
      refine lv_iconst (v := 0) hx hb dX11_planByte_34 (by decide) ?_
      refine lv_istore_n (lv' := [(2, .int (0 : Int32)), (0, .ref a0.1), (1, .int p1)]) hx hb dX11_planByte_35 rfl hl (by decide) rfl (fun ls hl => ?_)
      have L36 : ∀ (n36 : Nat) (z36_0 : Int32) (z36_1 : Nat) (z36_2 : (Nat → Int32)) (z36_3 : Nat) (z36_4 : (Nat → Int32)) (z36_5 : Int32) (z36_6 : Int32) (z36_7 : Nat) (z36_8 : (Nat → Int32)) (z36_9 : Int32) (z36_10 : Int32) (z36_11 : Nat) (z36_12 : (Nat → Int32)) (z36_13 : Int32) (z36_14 : Int32) (z36_15 : Int32) (z36_16 : Int32) (z36_17 : Nat) (z36_18 : (Nat → Int32)) (z36_19 : Int32) (o43 : Int32 × Nat × (Nat → Int32) × Nat × (Nat → Int32) × Int32 × Int32 × Nat × (Nat → Int32) × Int32 × Int32 × Nat × (Nat → Int32) × Int32 × Int32 × Int32 × Int32 × Nat × (Nat → Int32) × Int32), qX11_planByte_36 n36 z36_0 z36_1 z36_2 z36_3 z36_4 z36_5 z36_6 z36_7 z36_8 z36_9 z36_10 z36_11 z36_12 z36_13 z36_14 z36_15 z36_16 z36_17 z36_18 z36_19 = some o43 → ∀ (H : Heap) (locs : List Loc) (ls : Array Slot), ww A s.heap D [[(a0.1, .inr (11, [.ref a0.2.1, .ref a0.2.2.1, .int z36_5, .int z36_6, .ref a0.2.2.2.1, .int z36_9, .int z36_10, .ref a0.2.2.2.2.1, .int z36_13, .int z36_14, .int z36_15, .int z36_16, .ref a0.2.2.2.2.2, .int z36_19]))], [(a0.2.1, .inl (cA, z36_1, .inl z36_2))], [(a0.2.2.1, .inl (cA, z36_3, .inl z36_4))], [(a0.2.2.2.1, .inl (cA, z36_7, .inl z36_8))], [(a0.2.2.2.2.1, .inl (cA, z36_11, .inl z36_12))], [(a0.2.2.2.2.2, .inl (cA, z36_17, .inl z36_18))]] H locs → lv_has ls 4 [(0, .ref a0.1), (1, .int p1), (2, .int z36_0)] → (∀ (y129 : Int32 × Nat × (Nat → Int32) × Nat × (Nat → Int32) × Int32 × Int32 × Nat × (Nat → Int32) × Int32 × Int32 × Nat × (Nat → Int32) × Int32 × Int32 × Int32 × Int32 × Nat × (Nat → Int32) × Int32), o43 = y129 → ∀ (H : Heap) (locs : List Loc) (ls : Array Slot), ww A s.heap D [[(a0.1, .inr (11, [.ref a0.2.1, .ref a0.2.2.1, .int y129.2.2.2.2.2.1, .int y129.2.2.2.2.2.2.1, .ref a0.2.2.2.1, .int y129.2.2.2.2.2.2.2.2.2.1, .int y129.2.2.2.2.2.2.2.2.2.2.1, .ref a0.2.2.2.2.1, .int y129.2.2.2.2.2.2.2.2.2.2.2.2.2.1, .int y129.2.2.2.2.2.2.2.2.2.2.2.2.2.2.1, .int y129.2.2.2.2.2.2.2.2.2.2.2.2.2.2.2.1, .int y129.2.2.2.2.2.2.2.2.2.2.2.2.2.2.2.2.1, .ref a0.2.2.2.2.2, .int y129.2.2.2.2.2.2.2.2.2.2.2.2.2.2.2.2.2.2.2]))], [(a0.2.1, .inl (cA, y129.2.1, .inl y129.2.2.1))], [(a0.2.2.1, .inl (cA, y129.2.2.2.1, .inl y129.2.2.2.2.1))], [(a0.2.2.2.1, .inl (cA, y129.2.2.2.2.2.2.2.1, .inl y129.2.2.2.2.2.2.2.2.1))], [(a0.2.2.2.2.1, .inl (cA, y129.2.2.2.2.2.2.2.2.2.2.2.1, .inl y129.2.2.2.2.2.2.2.2.2.2.2.2.1))], [(a0.2.2.2.2.2, .inl (cA, y129.2.2.2.2.2.2.2.2.2.2.2.2.2.2.2.2.2.1, .inl y129.2.2.2.2.2.2.2.2.2.2.2.2.2.2.2.2.2.2.1))]] H locs → lv_has ls 4 [(0, .ref a0.1), (1, .int p1), (2, .int y129.1)] → W p l e rX11_planByte s m args below meth c H locs 0 0 Q (F0 m 129 ls [])) → W p l e rX11_planByte s m args below meth c H locs 0 0 Q (F0 m 36 ls []) := by
        intro n36
        induction n36 with
        | zero => intro z36_0 z36_1 z36_2 z36_3 z36_4 z36_5 z36_6 z36_7 z36_8 z36_9 z36_10 z36_11 z36_12 z36_13 z36_14 z36_15 z36_16 z36_17 z36_18 z36_19 o43 hsp; cases hsp
        | succ n36 ih36 =>
          intro z36_0 z36_1 z36_2 z36_3 z36_4 z36_5 z36_6 z36_7 z36_8 z36_9 z36_10 z36_11 z36_12 z36_13 z36_14 z36_15 z36_16 z36_17 z36_18 z36_19 o43 hsp H locs ls hw hl kx36_129
          have hsp : (grd (vp_in (6 : Int32) z36_1) (if (z36_2 (6 : Int32).toNatClampNeg) ≤ z36_0 then (some (z36_0, z36_1, z36_2, z36_3, z36_4, z36_5, z36_6, z36_7, z36_8, z36_9, z36_10, z36_11, z36_12, z36_13, z36_14, z36_15, z36_16, z36_17, z36_18, z36_19)) else (grd (vp_in ((70 : Int32) + ((3 : Int32) * z36_0)) z36_1) ((sX11_writesNumber ((z36_1, z36_2), (z36_3, z36_4), z36_5, z36_6, (z36_7, z36_8), z36_9, z36_10, (z36_11, z36_12), z36_13, z36_14, z36_15, z36_16, (z36_17, z36_18), z36_19) (z36_2 ((70 : Int32) + ((3 : Int32) * z36_0)).toNatClampNeg)).bind (fun o47 => (grd (vp_in (((70 : Int32) + ((3 : Int32) * z36_0)) + (1 : Int32)) o47.1.1) (grd (vp_in ((70 : Int32) + ((3 : Int32) * z36_0)) o47.1.1) (((if (o47.1.2 (((70 : Int32) + ((3 : Int32) * z36_0)) + (1 : Int32)).toNatClampNeg) = (o47.1.2 ((70 : Int32) + ((3 : Int32) * z36_0)).toNatClampNeg) then (some (o47.1.1, o47.1.2, o47.2.1.1, o47.2.1.2, o47.2.2.1, o47.2.2.2.1, o47.2.2.2.2.1.1, o47.2.2.2.2.1.2, o47.2.2.2.2.2.1, o47.2.2.2.2.2.2.1, o47.2.2.2.2.2.2.2.1.1, o47.2.2.2.2.2.2.2.1.2, o47.2.2.2.2.2.2.2.2.1, o47.2.2.2.2.2.2.2.2.2.1, o47.2.2.2.2.2.2.2.2.2.2.1, o47.2.2.2.2.2.2.2.2.2.2.2.1, o47.2.2.2.2.2.2.2.2.2.2.2.2.1.1, o47.2.2.2.2.2.2.2.2.2.2.2.2.1.2, o47.2.2.2.2.2.2.2.2.2.2.2.2.2)) else ((sX11_writes o47 (45 : Int32)).bind (fun o60 => (grd (vp_in (((70 : Int32) + ((3 : Int32) * z36_0)) + (1 : Int32)) o60.1.1) ((sX11_writesNumber o60 (o60.1.2 (((70 : Int32) + ((3 : Int32) * z36_0)) + (1 : Int32)).toNatClampNeg)).bind (fun o62 => (some (o62.1.1, o62.1.2, o62.2.1.1, o62.2.1.2, o62.2.2.1, o62.2.2.2.1, o62.2.2.2.2.1.1, o62.2.2.2.2.1.2, o62.2.2.2.2.2.1, o62.2.2.2.2.2.2.1, o62.2.2.2.2.2.2.2.1.1, o62.2.2.2.2.2.2.2.1.2, o62.2.2.2.2.2.2.2.2.1, o62.2.2.2.2.2.2.2.2.2.1, o62.2.2.2.2.2.2.2.2.2.2.1, o62.2.2.2.2.2.2.2.2.2.2.2.1, o62.2.2.2.2.2.2.2.2.2.2.2.2.1.1, o62.2.2.2.2.2.2.2.2.2.2.2.2.1.2, o62.2.2.2.2.2.2.2.2.2.2.2.2.2)))))))) : Option (Nat × (Nat → Int32) × Nat × (Nat → Int32) × Int32 × Int32 × Nat × (Nat → Int32) × Int32 × Int32 × Nat × (Nat → Int32) × Int32 × Int32 × Int32 × Int32 × Nat × (Nat → Int32) × Int32)).bind (fun j54 => ((sX11_writes ((j54.1, j54.2.1), (j54.2.2.1, j54.2.2.2.1), j54.2.2.2.2.1, j54.2.2.2.2.2.1, (j54.2.2.2.2.2.2.1, j54.2.2.2.2.2.2.2.1), j54.2.2.2.2.2.2.2.2.1, j54.2.2.2.2.2.2.2.2.2.1, (j54.2.2.2.2.2.2.2.2.2.2.1, j54.2.2.2.2.2.2.2.2.2.2.2.1), j54.2.2.2.2.2.2.2.2.2.2.2.2.1, j54.2.2.2.2.2.2.2.2.2.2.2.2.2.1, j54.2.2.2.2.2.2.2.2.2.2.2.2.2.2.1, j54.2.2.2.2.2.2.2.2.2.2.2.2.2.2.2.1, (j54.2.2.2.2.2.2.2.2.2.2.2.2.2.2.2.2.1, j54.2.2.2.2.2.2.2.2.2.2.2.2.2.2.2.2.2.1), j54.2.2.2.2.2.2.2.2.2.2.2.2.2.2.2.2.2.2) (58 : Int32)).bind (fun o55 => (grd (vp_in (((70 : Int32) + ((3 : Int32) * z36_0)) + (2 : Int32)) o55.1.1) ((sX11_writesNumber o55 (o55.1.2 (((70 : Int32) + ((3 : Int32) * z36_0)) + (2 : Int32)).toNatClampNeg)).bind (fun o57 => ((sX11_writes o57 (59 : Int32)).bind (fun o58 => (qX11_planByte_36 n36 (z36_0 + 1) o58.1.1 o58.1.2 o58.2.1.1 o58.2.1.2 o58.2.2.1 o58.2.2.2.1 o58.2.2.2.2.1.1 o58.2.2.2.2.1.2 o58.2.2.2.2.2.1 o58.2.2.2.2.2.2.1 o58.2.2.2.2.2.2.2.1.1 o58.2.2.2.2.2.2.2.1.2 o58.2.2.2.2.2.2.2.2.1 o58.2.2.2.2.2.2.2.2.2.1 o58.2.2.2.2.2.2.2.2.2.2.1 o58.2.2.2.2.2.2.2.2.2.2.2.1 o58.2.2.2.2.2.2.2.2.2.2.2.2.1.1 o58.2.2.2.2.2.2.2.2.2.2.2.2.1.2 o58.2.2.2.2.2.2.2.2.2.2.2.2.2))))))))))))))))) = some o43 := hsp
          refine lv_iload_n hx hb dX11_planByte_36 rfl (lv_at hl 2 rfl) ?_
          refine lv_aload_n hx hb dX11_planByte_37 rfl (lv_at hl 0 rfl) ?_
          refine k_get (ci := 11) (v := .ref a0.2.1) (C := RX11) (T := TX11) (N := 14) hx hb hts hown hz hw (by decide +kernel) 0 rfl rfl 0 (by decide) (hts (.fieldLink RX11 7 "OccupancyMonitorModel" "all" "[I") (by decide +kernel)) (fun _ h9 => h9) rfl dX11_planByte_38 ?_
          refine lv_bipush (v := 6) hx hb dX11_planByte_41 (by decide) ?_
          obtain ⟨g44, hsp⟩ := grd_of hsp
          refine k_iald hx hb hz hw 1 rfl g44 dX11_planByte_43 ?_
          refine lv_icmp_ge (tgt := 129) hx hb dX11_planByte_44 (by decide) (fun c45 => ?_) (fun c45 => ?_)
          · have hsp := ift c45 hsp
            have hsp := Option.some.inj hsp
            subst hsp
            exact kx36_129 _ rfl _ _ _ hw (lv_sub hl [0, 1, 2] rfl)
          · have hsp := iff_ c45 hsp
            refine lv_bipush (v := 70) hx hb dX11_planByte_47 (by decide) ?_
            refine lv_iconst (v := 3) hx hb dX11_planByte_49 (by decide) ?_
            refine lv_iload_n hx hb dX11_planByte_50 rfl (lv_at hl 2 rfl) ?_
            refine lv_imul hx hb dX11_planByte_51 ?_
            refine lv_iadd hx hb dX11_planByte_52 ?_
            refine lv_istore_n (lv' := [(3, .int ((70 : Int32) + ((3 : Int32) * z36_0))), (0, .ref a0.1), (1, .int p1), (2, .int z36_0)]) hx hb dX11_planByte_53 rfl hl (by decide) rfl (fun ls hl => ?_)
            refine lv_aload_n hx hb dX11_planByte_54 rfl (lv_at hl 1 rfl) ?_
            refine lv_aload_n hx hb dX11_planByte_55 rfl (lv_at hl 1 rfl) ?_
            refine k_get (ci := 11) (v := .ref a0.2.1) (C := RX11) (T := TX11) (N := 14) hx hb hts hown hz hw (by decide +kernel) 0 rfl rfl 0 (by decide) (hts (.fieldLink RX11 7 "OccupancyMonitorModel" "all" "[I") (by decide +kernel)) (fun _ h9 => h9) rfl dX11_planByte_56 ?_
            refine lv_iload_n hx hb dX11_planByte_59 rfl (lv_at hl 0 rfl) ?_
            obtain ⟨g46, hsp⟩ := grd_of hsp
            refine k_iald hx hb hz hw 1 rfl g46 dX11_planByte_60 ?_
            have hw : ww A s.heap D [w11 cA a0 ((z36_1, z36_2), (z36_3, z36_4), z36_5, z36_6, (z36_7, z36_8), z36_9, z36_10, (z36_11, z36_12), z36_13, z36_14, z36_15, z36_16, (z36_17, z36_18), z36_19)] H locs := hw
            obtain ⟨o47, hso47, hsp⟩ := bnd_of hsp
            refine k_callV (ci := 11) (C := RX11) (T := TX11) (N := 14) (nA := 1) (As := [.int (z36_2 ((70 : Int32) + ((3 : Int32) * z36_0)).toNatClampNeg)]) (cs := [w11 cA a0 ((z36_1, z36_2), (z36_3, z36_4), z36_5, z36_6, (z36_7, z36_8), z36_9, z36_10, (z36_11, z36_12), z36_13, z36_14, z36_15, z36_16, (z36_17, z36_18), z36_19)]) (rs := []) (cs1 := [w11 cA a0 o47]) (bs1 := [w11 cA a0 o47]) (rest := []) (st1 := []) ⟨hx, hb, hml, hown, hts⟩ hz hw hA (mX11_writesNumber l D cA cR a0 ((z36_1, z36_2), (z36_3, z36_4), z36_5, z36_6, (z36_7, z36_8), z36_9, z36_10, (z36_11, z36_12), z36_13, z36_14, z36_15, z36_16, (z36_17, z36_18), z36_19) (z36_2 ((70 : Int32) + ((3 : Int32) * z36_0)).toNatClampNeg) o47 hso47) gX11_planByte_X11_writesNumber rfl rfl rfl (by decide +kernel) rfl ⟨Nat.le_of_ble_eq_true rfl, Nat.le_of_ble_eq_true rfl⟩ rfl rfl hl.1 rfl (Nat.le_of_ble_eq_true rfl) dX11_planByte_61 ⟨Nat.le_of_ble_eq_true rfl, Nat.le_of_ble_eq_true rfl⟩ [0] [] [0] rfl rfl rfl rfl rfl rfl (fun H locs hw => ?_)
            have hw : ww A s.heap D [[(a0.1, .inr (11, [.ref a0.2.1, .ref a0.2.2.1, .int o47.2.2.1, .int o47.2.2.2.1, .ref a0.2.2.2.1, .int o47.2.2.2.2.2.1, .int o47.2.2.2.2.2.2.1, .ref a0.2.2.2.2.1, .int o47.2.2.2.2.2.2.2.2.1, .int o47.2.2.2.2.2.2.2.2.2.1, .int o47.2.2.2.2.2.2.2.2.2.2.1, .int o47.2.2.2.2.2.2.2.2.2.2.2.1, .ref a0.2.2.2.2.2, .int o47.2.2.2.2.2.2.2.2.2.2.2.2.2]))], [(a0.2.1, .inl (cA, o47.1.1, .inl o47.1.2))], [(a0.2.2.1, .inl (cA, o47.2.1.1, .inl o47.2.1.2))], [(a0.2.2.2.1, .inl (cA, o47.2.2.2.2.1.1, .inl o47.2.2.2.2.1.2))], [(a0.2.2.2.2.1, .inl (cA, o47.2.2.2.2.2.2.2.1.1, .inl o47.2.2.2.2.2.2.2.1.2))], [(a0.2.2.2.2.2, .inl (cA, o47.2.2.2.2.2.2.2.2.2.2.2.2.1.1, .inl o47.2.2.2.2.2.2.2.2.2.2.2.2.1.2))]] H locs := hw
            refine lv_aload_n hx hb dX11_planByte_64 rfl (lv_at hl 1 rfl) ?_
            refine k_get (ci := 11) (v := .ref a0.2.1) (C := RX11) (T := TX11) (N := 14) hx hb hts hown hz hw (by decide +kernel) 0 rfl rfl 0 (by decide) (hts (.fieldLink RX11 7 "OccupancyMonitorModel" "all" "[I") (by decide +kernel)) (fun _ h9 => h9) rfl dX11_planByte_65 ?_
            refine lv_iload_n hx hb dX11_planByte_68 rfl (lv_at hl 0 rfl) ?_
            refine lv_iconst (v := 1) hx hb dX11_planByte_69 (by decide) ?_
            refine lv_iadd hx hb dX11_planByte_70 ?_
            obtain ⟨g48, hsp⟩ := grd_of hsp
            refine k_iald hx hb hz hw 1 rfl g48 dX11_planByte_71 ?_
            refine lv_aload_n hx hb dX11_planByte_72 rfl (lv_at hl 1 rfl) ?_
            refine k_get (ci := 11) (v := .ref a0.2.1) (C := RX11) (T := TX11) (N := 14) hx hb hts hown hz hw (by decide +kernel) 0 rfl rfl 0 (by decide) (hts (.fieldLink RX11 7 "OccupancyMonitorModel" "all" "[I") (by decide +kernel)) (fun _ h9 => h9) rfl dX11_planByte_73 ?_
            refine lv_iload_n hx hb dX11_planByte_76 rfl (lv_at hl 0 rfl) ?_
            obtain ⟨g49, hsp⟩ := grd_of hsp
            refine k_iald hx hb hz hw 1 rfl g49 dX11_planByte_77 ?_
            obtain ⟨j54, hsj54, hkj54⟩ := bnd_of hsp
            have Jj54 : ∀ (H : Heap) (locs : List Loc) (ls : Array Slot), ww A s.heap D [[(a0.1, .inr (11, [.ref a0.2.1, .ref a0.2.2.1, .int j54.2.2.2.2.1, .int j54.2.2.2.2.2.1, .ref a0.2.2.2.1, .int j54.2.2.2.2.2.2.2.2.1, .int j54.2.2.2.2.2.2.2.2.2.1, .ref a0.2.2.2.2.1, .int j54.2.2.2.2.2.2.2.2.2.2.2.2.1, .int j54.2.2.2.2.2.2.2.2.2.2.2.2.2.1, .int j54.2.2.2.2.2.2.2.2.2.2.2.2.2.2.1, .int j54.2.2.2.2.2.2.2.2.2.2.2.2.2.2.2.1, .ref a0.2.2.2.2.2, .int j54.2.2.2.2.2.2.2.2.2.2.2.2.2.2.2.2.2.2]))], [(a0.2.1, .inl (cA, j54.1, .inl j54.2.1))], [(a0.2.2.1, .inl (cA, j54.2.2.1, .inl j54.2.2.2.1))], [(a0.2.2.2.1, .inl (cA, j54.2.2.2.2.2.2.1, .inl j54.2.2.2.2.2.2.2.1))], [(a0.2.2.2.2.1, .inl (cA, j54.2.2.2.2.2.2.2.2.2.2.1, .inl j54.2.2.2.2.2.2.2.2.2.2.2.1))], [(a0.2.2.2.2.2, .inl (cA, j54.2.2.2.2.2.2.2.2.2.2.2.2.2.2.2.2.1, .inl j54.2.2.2.2.2.2.2.2.2.2.2.2.2.2.2.2.2.1))]] H locs → lv_has ls 4 [(0, .ref a0.1), (1, .int p1), (2, .int z36_0), (3, .int ((70 : Int32) + ((3 : Int32) * z36_0)))] → W p l e rX11_planByte s m args below meth c H locs 0 0 Q (F0 m 99 ls []) := by
              intro H locs ls hw hl
              have hsp := hkj54
              refine lv_aload_n hx hb dX11_planByte_99 rfl (lv_at hl 0 rfl) ?_
              refine lv_bipush (v := 58) hx hb dX11_planByte_100 (by decide) ?_
              have hw : ww A s.heap D [w11 cA a0 ((j54.1, j54.2.1), (j54.2.2.1, j54.2.2.2.1), j54.2.2.2.2.1, j54.2.2.2.2.2.1, (j54.2.2.2.2.2.2.1, j54.2.2.2.2.2.2.2.1), j54.2.2.2.2.2.2.2.2.1, j54.2.2.2.2.2.2.2.2.2.1, (j54.2.2.2.2.2.2.2.2.2.2.1, j54.2.2.2.2.2.2.2.2.2.2.2.1), j54.2.2.2.2.2.2.2.2.2.2.2.2.1, j54.2.2.2.2.2.2.2.2.2.2.2.2.2.1, j54.2.2.2.2.2.2.2.2.2.2.2.2.2.2.1, j54.2.2.2.2.2.2.2.2.2.2.2.2.2.2.2.1, (j54.2.2.2.2.2.2.2.2.2.2.2.2.2.2.2.2.1, j54.2.2.2.2.2.2.2.2.2.2.2.2.2.2.2.2.2.1), j54.2.2.2.2.2.2.2.2.2.2.2.2.2.2.2.2.2.2)] H locs := hw
              obtain ⟨o55, hso55, hsp⟩ := bnd_of hsp
              refine k_callV (ci := 11) (C := RX11) (T := TX11) (N := 14) (nA := 1) (As := [.int (58 : Int32)]) (cs := [w11 cA a0 ((j54.1, j54.2.1), (j54.2.2.1, j54.2.2.2.1), j54.2.2.2.2.1, j54.2.2.2.2.2.1, (j54.2.2.2.2.2.2.1, j54.2.2.2.2.2.2.2.1), j54.2.2.2.2.2.2.2.2.1, j54.2.2.2.2.2.2.2.2.2.1, (j54.2.2.2.2.2.2.2.2.2.2.1, j54.2.2.2.2.2.2.2.2.2.2.2.1), j54.2.2.2.2.2.2.2.2.2.2.2.2.1, j54.2.2.2.2.2.2.2.2.2.2.2.2.2.1, j54.2.2.2.2.2.2.2.2.2.2.2.2.2.2.1, j54.2.2.2.2.2.2.2.2.2.2.2.2.2.2.2.1, (j54.2.2.2.2.2.2.2.2.2.2.2.2.2.2.2.2.1, j54.2.2.2.2.2.2.2.2.2.2.2.2.2.2.2.2.2.1), j54.2.2.2.2.2.2.2.2.2.2.2.2.2.2.2.2.2.2)]) (rs := []) (cs1 := [w11 cA a0 o55]) (bs1 := [w11 cA a0 o55]) (rest := []) (st1 := []) ⟨hx, hb, hml, hown, hts⟩ hz hw hA (mX11_writes l D cA cR a0 ((j54.1, j54.2.1), (j54.2.2.1, j54.2.2.2.1), j54.2.2.2.2.1, j54.2.2.2.2.2.1, (j54.2.2.2.2.2.2.1, j54.2.2.2.2.2.2.2.1), j54.2.2.2.2.2.2.2.2.1, j54.2.2.2.2.2.2.2.2.2.1, (j54.2.2.2.2.2.2.2.2.2.2.1, j54.2.2.2.2.2.2.2.2.2.2.2.1), j54.2.2.2.2.2.2.2.2.2.2.2.2.1, j54.2.2.2.2.2.2.2.2.2.2.2.2.2.1, j54.2.2.2.2.2.2.2.2.2.2.2.2.2.2.1, j54.2.2.2.2.2.2.2.2.2.2.2.2.2.2.2.1, (j54.2.2.2.2.2.2.2.2.2.2.2.2.2.2.2.2.1, j54.2.2.2.2.2.2.2.2.2.2.2.2.2.2.2.2.2.1), j54.2.2.2.2.2.2.2.2.2.2.2.2.2.2.2.2.2.2) (58 : Int32) o55 hso55) gX11_planByte_X11_writes rfl rfl rfl (by decide +kernel) rfl ⟨Nat.le_of_ble_eq_true rfl, Nat.le_of_ble_eq_true rfl⟩ rfl rfl hl.1 rfl (Nat.le_of_ble_eq_true rfl) dX11_planByte_102 ⟨Nat.le_of_ble_eq_true rfl, Nat.le_of_ble_eq_true rfl⟩ [0] [] [0] rfl rfl rfl rfl rfl rfl (fun H locs hw => ?_)
              have hw : ww A s.heap D [[(a0.1, .inr (11, [.ref a0.2.1, .ref a0.2.2.1, .int o55.2.2.1, .int o55.2.2.2.1, .ref a0.2.2.2.1, .int o55.2.2.2.2.2.1, .int o55.2.2.2.2.2.2.1, .ref a0.2.2.2.2.1, .int o55.2.2.2.2.2.2.2.2.1, .int o55.2.2.2.2.2.2.2.2.2.1, .int o55.2.2.2.2.2.2.2.2.2.2.1, .int o55.2.2.2.2.2.2.2.2.2.2.2.1, .ref a0.2.2.2.2.2, .int o55.2.2.2.2.2.2.2.2.2.2.2.2.2]))], [(a0.2.1, .inl (cA, o55.1.1, .inl o55.1.2))], [(a0.2.2.1, .inl (cA, o55.2.1.1, .inl o55.2.1.2))], [(a0.2.2.2.1, .inl (cA, o55.2.2.2.2.1.1, .inl o55.2.2.2.2.1.2))], [(a0.2.2.2.2.1, .inl (cA, o55.2.2.2.2.2.2.2.1.1, .inl o55.2.2.2.2.2.2.2.1.2))], [(a0.2.2.2.2.2, .inl (cA, o55.2.2.2.2.2.2.2.2.2.2.2.2.1.1, .inl o55.2.2.2.2.2.2.2.2.2.2.2.2.1.2))]] H locs := hw
              refine lv_aload_n hx hb dX11_planByte_105 rfl (lv_at hl 0 rfl) ?_
              refine lv_aload_n hx hb dX11_planByte_106 rfl (lv_at hl 0 rfl) ?_
              refine k_get (ci := 11) (v := .ref a0.2.1) (C := RX11) (T := TX11) (N := 14) hx hb hts hown hz hw (by decide +kernel) 0 rfl rfl 0 (by decide) (hts (.fieldLink RX11 7 "OccupancyMonitorModel" "all" "[I") (by decide +kernel)) (fun _ h9 => h9) rfl dX11_planByte_107 ?_
              refine lv_iload_n hx hb dX11_planByte_110 rfl (lv_at hl 3 rfl) ?_
              refine lv_iconst (v := 2) hx hb dX11_planByte_111 (by decide) ?_
              refine lv_iadd hx hb dX11_planByte_112 ?_
              obtain ⟨g56, hsp⟩ := grd_of hsp
              refine k_iald hx hb hz hw 1 rfl g56 dX11_planByte_113 ?_
              have hw : ww A s.heap D [w11 cA a0 o55] H locs := hw
              obtain ⟨o57, hso57, hsp⟩ := bnd_of hsp
              refine k_callV (ci := 11) (C := RX11) (T := TX11) (N := 14) (nA := 1) (As := [.int (o55.1.2 (((70 : Int32) + ((3 : Int32) * z36_0)) + (2 : Int32)).toNatClampNeg)]) (cs := [w11 cA a0 o55]) (rs := []) (cs1 := [w11 cA a0 o57]) (bs1 := [w11 cA a0 o57]) (rest := []) (st1 := []) ⟨hx, hb, hml, hown, hts⟩ hz hw hA (mX11_writesNumber l D cA cR a0 o55 (o55.1.2 (((70 : Int32) + ((3 : Int32) * z36_0)) + (2 : Int32)).toNatClampNeg) o57 hso57) gX11_planByte_X11_writesNumber rfl rfl rfl (by decide +kernel) rfl ⟨Nat.le_of_ble_eq_true rfl, Nat.le_of_ble_eq_true rfl⟩ rfl rfl hl.1 rfl (Nat.le_of_ble_eq_true rfl) dX11_planByte_114 ⟨Nat.le_of_ble_eq_true rfl, Nat.le_of_ble_eq_true rfl⟩ [0] [] [0] rfl rfl rfl rfl rfl rfl (fun H locs hw => ?_)
              have hw : ww A s.heap D [[(a0.1, .inr (11, [.ref a0.2.1, .ref a0.2.2.1, .int o57.2.2.1, .int o57.2.2.2.1, .ref a0.2.2.2.1, .int o57.2.2.2.2.2.1, .int o57.2.2.2.2.2.2.1, .ref a0.2.2.2.2.1, .int o57.2.2.2.2.2.2.2.2.1, .int o57.2.2.2.2.2.2.2.2.2.1, .int o57.2.2.2.2.2.2.2.2.2.2.1, .int o57.2.2.2.2.2.2.2.2.2.2.2.1, .ref a0.2.2.2.2.2, .int o57.2.2.2.2.2.2.2.2.2.2.2.2.2]))], [(a0.2.1, .inl (cA, o57.1.1, .inl o57.1.2))], [(a0.2.2.1, .inl (cA, o57.2.1.1, .inl o57.2.1.2))], [(a0.2.2.2.1, .inl (cA, o57.2.2.2.2.1.1, .inl o57.2.2.2.2.1.2))], [(a0.2.2.2.2.1, .inl (cA, o57.2.2.2.2.2.2.2.1.1, .inl o57.2.2.2.2.2.2.2.1.2))], [(a0.2.2.2.2.2, .inl (cA, o57.2.2.2.2.2.2.2.2.2.2.2.2.1.1, .inl o57.2.2.2.2.2.2.2.2.2.2.2.2.1.2))]] H locs := hw
              refine lv_aload_n hx hb dX11_planByte_117 rfl (lv_at hl 0 rfl) ?_
              refine lv_bipush (v := 59) hx hb dX11_planByte_118 (by decide) ?_
              have hw : ww A s.heap D [w11 cA a0 o57] H locs := hw
              obtain ⟨o58, hso58, hsp⟩ := bnd_of hsp
              refine k_callV (ci := 11) (C := RX11) (T := TX11) (N := 14) (nA := 1) (As := [.int (59 : Int32)]) (cs := [w11 cA a0 o57]) (rs := []) (cs1 := [w11 cA a0 o58]) (bs1 := [w11 cA a0 o58]) (rest := []) (st1 := []) ⟨hx, hb, hml, hown, hts⟩ hz hw hA (mX11_writes l D cA cR a0 o57 (59 : Int32) o58 hso58) gX11_planByte_X11_writes rfl rfl rfl (by decide +kernel) rfl ⟨Nat.le_of_ble_eq_true rfl, Nat.le_of_ble_eq_true rfl⟩ rfl rfl hl.1 rfl (Nat.le_of_ble_eq_true rfl) dX11_planByte_120 ⟨Nat.le_of_ble_eq_true rfl, Nat.le_of_ble_eq_true rfl⟩ [0] [] [0] rfl rfl rfl rfl rfl rfl (fun H locs hw => ?_)
              have hw : ww A s.heap D [[(a0.1, .inr (11, [.ref a0.2.1, .ref a0.2.2.1, .int o58.2.2.1, .int o58.2.2.2.1, .ref a0.2.2.2.1, .int o58.2.2.2.2.2.1, .int o58.2.2.2.2.2.2.1, .ref a0.2.2.2.2.1, .int o58.2.2.2.2.2.2.2.2.1, .int o58.2.2.2.2.2.2.2.2.2.1, .int o58.2.2.2.2.2.2.2.2.2.2.1, .int o58.2.2.2.2.2.2.2.2.2.2.2.1, .ref a0.2.2.2.2.2, .int o58.2.2.2.2.2.2.2.2.2.2.2.2.2]))], [(a0.2.1, .inl (cA, o58.1.1, .inl o58.1.2))], [(a0.2.2.1, .inl (cA, o58.2.1.1, .inl o58.2.1.2))], [(a0.2.2.2.1, .inl (cA, o58.2.2.2.2.1.1, .inl o58.2.2.2.2.1.2))], [(a0.2.2.2.2.1, .inl (cA, o58.2.2.2.2.2.2.2.1.1, .inl o58.2.2.2.2.2.2.2.1.2))], [(a0.2.2.2.2.2, .inl (cA, o58.2.2.2.2.2.2.2.2.2.2.2.2.1.1, .inl o58.2.2.2.2.2.2.2.2.2.2.2.2.1.2))]] H locs := hw
              refine lv_iinc (v := (z36_0 + 1)) (lv' := [(2, .int (z36_0 + 1)), (0, .ref a0.1), (1, .int p1), (3, .int ((70 : Int32) + ((3 : Int32) * z36_0)))]) hx hb dX11_planByte_123 hl (k := 2) rfl rfl (by decide) rfl (fun ls hl => ?_)
              refine lv_goto (tgt := 36) hx hb dX11_planByte_126 (by decide) ?_
              exact ih36 (z36_0 + 1) o58.1.1 o58.1.2 o58.2.1.1 o58.2.1.2 o58.2.2.1 o58.2.2.2.1 o58.2.2.2.2.1.1 o58.2.2.2.2.1.2 o58.2.2.2.2.2.1 o58.2.2.2.2.2.2.1 o58.2.2.2.2.2.2.2.1.1 o58.2.2.2.2.2.2.2.1.2 o58.2.2.2.2.2.2.2.2.1 o58.2.2.2.2.2.2.2.2.2.1 o58.2.2.2.2.2.2.2.2.2.2.1 o58.2.2.2.2.2.2.2.2.2.2.2.1 o58.2.2.2.2.2.2.2.2.2.2.2.2.1.1 o58.2.2.2.2.2.2.2.2.2.2.2.2.1.2 o58.2.2.2.2.2.2.2.2.2.2.2.2.2 _ hsp _ _ _ hw (lv_sub hl [1, 2, 0] rfl) kx36_129
            have hsp := hsj54
            refine lv_icmp_eq (tgt := 99) hx hb dX11_planByte_78 (by decide) (fun c59 => ?_) (fun c59 => ?_)
            · have hsp := ift c59 hsp
              have hsp := Option.some.inj hsp
              subst hsp
              exact Jj54 _ _ _ hw (lv_sub hl [1, 2, 3, 0] rfl)
            · have hsp := iff_ c59 hsp
              refine lv_aload_n hx hb dX11_planByte_81 rfl (lv_at hl 1 rfl) ?_
              refine lv_bipush (v := 45) hx hb dX11_planByte_82 (by decide) ?_
              have hw : ww A s.heap D [w11 cA a0 o47] H locs := hw
              obtain ⟨o60, hso60, hsp⟩ := bnd_of hsp
              refine k_callV (ci := 11) (C := RX11) (T := TX11) (N := 14) (nA := 1) (As := [.int (45 : Int32)]) (cs := [w11 cA a0 o47]) (rs := []) (cs1 := [w11 cA a0 o60]) (bs1 := [w11 cA a0 o60]) (rest := []) (st1 := []) ⟨hx, hb, hml, hown, hts⟩ hz hw hA (mX11_writes l D cA cR a0 o47 (45 : Int32) o60 hso60) gX11_planByte_X11_writes rfl rfl rfl (by decide +kernel) rfl ⟨Nat.le_of_ble_eq_true rfl, Nat.le_of_ble_eq_true rfl⟩ rfl rfl hl.1 rfl (Nat.le_of_ble_eq_true rfl) dX11_planByte_84 ⟨Nat.le_of_ble_eq_true rfl, Nat.le_of_ble_eq_true rfl⟩ [0] [] [0] rfl rfl rfl rfl rfl rfl (fun H locs hw => ?_)
              have hw : ww A s.heap D [[(a0.1, .inr (11, [.ref a0.2.1, .ref a0.2.2.1, .int o60.2.2.1, .int o60.2.2.2.1, .ref a0.2.2.2.1, .int o60.2.2.2.2.2.1, .int o60.2.2.2.2.2.2.1, .ref a0.2.2.2.2.1, .int o60.2.2.2.2.2.2.2.2.1, .int o60.2.2.2.2.2.2.2.2.2.1, .int o60.2.2.2.2.2.2.2.2.2.2.1, .int o60.2.2.2.2.2.2.2.2.2.2.2.1, .ref a0.2.2.2.2.2, .int o60.2.2.2.2.2.2.2.2.2.2.2.2.2]))], [(a0.2.1, .inl (cA, o60.1.1, .inl o60.1.2))], [(a0.2.2.1, .inl (cA, o60.2.1.1, .inl o60.2.1.2))], [(a0.2.2.2.1, .inl (cA, o60.2.2.2.2.1.1, .inl o60.2.2.2.2.1.2))], [(a0.2.2.2.2.1, .inl (cA, o60.2.2.2.2.2.2.2.1.1, .inl o60.2.2.2.2.2.2.2.1.2))], [(a0.2.2.2.2.2, .inl (cA, o60.2.2.2.2.2.2.2.2.2.2.2.2.1.1, .inl o60.2.2.2.2.2.2.2.2.2.2.2.2.1.2))]] H locs := hw
              refine lv_aload_n hx hb dX11_planByte_87 rfl (lv_at hl 1 rfl) ?_
              refine lv_aload_n hx hb dX11_planByte_88 rfl (lv_at hl 1 rfl) ?_
              refine k_get (ci := 11) (v := .ref a0.2.1) (C := RX11) (T := TX11) (N := 14) hx hb hts hown hz hw (by decide +kernel) 0 rfl rfl 0 (by decide) (hts (.fieldLink RX11 7 "OccupancyMonitorModel" "all" "[I") (by decide +kernel)) (fun _ h9 => h9) rfl dX11_planByte_89 ?_
              refine lv_iload_n hx hb dX11_planByte_92 rfl (lv_at hl 0 rfl) ?_
              refine lv_iconst (v := 1) hx hb dX11_planByte_93 (by decide) ?_
              refine lv_iadd hx hb dX11_planByte_94 ?_
              obtain ⟨g61, hsp⟩ := grd_of hsp
              refine k_iald hx hb hz hw 1 rfl g61 dX11_planByte_95 ?_
              have hw : ww A s.heap D [w11 cA a0 o60] H locs := hw
              obtain ⟨o62, hso62, hsp⟩ := bnd_of hsp
              refine k_callV (ci := 11) (C := RX11) (T := TX11) (N := 14) (nA := 1) (As := [.int (o60.1.2 (((70 : Int32) + ((3 : Int32) * z36_0)) + (1 : Int32)).toNatClampNeg)]) (cs := [w11 cA a0 o60]) (rs := []) (cs1 := [w11 cA a0 o62]) (bs1 := [w11 cA a0 o62]) (rest := []) (st1 := []) ⟨hx, hb, hml, hown, hts⟩ hz hw hA (mX11_writesNumber l D cA cR a0 o60 (o60.1.2 (((70 : Int32) + ((3 : Int32) * z36_0)) + (1 : Int32)).toNatClampNeg) o62 hso62) gX11_planByte_X11_writesNumber rfl rfl rfl (by decide +kernel) rfl ⟨Nat.le_of_ble_eq_true rfl, Nat.le_of_ble_eq_true rfl⟩ rfl rfl hl.1 rfl (Nat.le_of_ble_eq_true rfl) dX11_planByte_96 ⟨Nat.le_of_ble_eq_true rfl, Nat.le_of_ble_eq_true rfl⟩ [0] [] [0] rfl rfl rfl rfl rfl rfl (fun H locs hw => ?_)
              have hw : ww A s.heap D [[(a0.1, .inr (11, [.ref a0.2.1, .ref a0.2.2.1, .int o62.2.2.1, .int o62.2.2.2.1, .ref a0.2.2.2.1, .int o62.2.2.2.2.2.1, .int o62.2.2.2.2.2.2.1, .ref a0.2.2.2.2.1, .int o62.2.2.2.2.2.2.2.2.1, .int o62.2.2.2.2.2.2.2.2.2.1, .int o62.2.2.2.2.2.2.2.2.2.2.1, .int o62.2.2.2.2.2.2.2.2.2.2.2.1, .ref a0.2.2.2.2.2, .int o62.2.2.2.2.2.2.2.2.2.2.2.2.2]))], [(a0.2.1, .inl (cA, o62.1.1, .inl o62.1.2))], [(a0.2.2.1, .inl (cA, o62.2.1.1, .inl o62.2.1.2))], [(a0.2.2.2.1, .inl (cA, o62.2.2.2.2.1.1, .inl o62.2.2.2.2.1.2))], [(a0.2.2.2.2.1, .inl (cA, o62.2.2.2.2.2.2.2.1.1, .inl o62.2.2.2.2.2.2.2.1.2))], [(a0.2.2.2.2.2, .inl (cA, o62.2.2.2.2.2.2.2.2.2.2.2.2.1.1, .inl o62.2.2.2.2.2.2.2.2.2.2.2.2.1.2))]] H locs := hw
              have hsp := Option.some.inj hsp
              subst hsp
              exact Jj54 _ _ _ hw (lv_sub hl [1, 2, 3, 0] rfl)
      obtain ⟨o43, hso43, hsp⟩ := bnd_of hsp
      refine L36 N (0 : Int32) o3.2.1.1 o3.2.1.2 o3.2.2.1.1 o3.2.2.1.2 o3.2.2.2.1 o3.2.2.2.2.1 o3.2.2.2.2.2.1.1 o3.2.2.2.2.2.1.2 o3.2.2.2.2.2.2.1 o3.2.2.2.2.2.2.2.1 o3.2.2.2.2.2.2.2.2.1.1 o3.2.2.2.2.2.2.2.2.1.2 o3.2.2.2.2.2.2.2.2.2.1 p1 (0 : Int32) (-1 : Int32) o3.2.2.2.2.2.2.2.2.2.2.2.2.2.1.1 o3.2.2.2.2.2.2.2.2.2.2.2.2.2.1.2 o3.2.2.2.2.2.2.2.2.2.2.2.2.2.2 _ hso43 _ _ _ hw (lv_sub hl [1, 2, 0] rfl) (fun y129 hy129 H locs ls hw hl => ?_)
      cases hy129
      refine lv_aload_n hx hb dX11_planByte_129 rfl (lv_at hl 0 rfl) ?_
      refine k_get (ci := 11) (v := .int o43.2.2.2.2.2.2.2.2.2.2.2.2.2.2.2.2.1) (C := RX11) (T := TX11) (N := 14) hx hb hts hown hz hw (by decide +kernel) 0 rfl rfl 11 (by decide) (hts (.fieldLink RX11 112 "OccupancyMonitorModel" "found" "I") (by decide +kernel)) (fun _ h9 => h9) rfl dX11_planByte_130 ?_
      have hsp := Option.some.inj hsp
      subst hsp
      have hw : ww A s.heap D [w11 cA a0 ((o43.2.1, o43.2.2.1), (o43.2.2.2.1, o43.2.2.2.2.1), o43.2.2.2.2.2.1, o43.2.2.2.2.2.2.1, (o43.2.2.2.2.2.2.2.1, o43.2.2.2.2.2.2.2.2.1), o43.2.2.2.2.2.2.2.2.2.1, o43.2.2.2.2.2.2.2.2.2.2.1, (o43.2.2.2.2.2.2.2.2.2.2.2.1, o43.2.2.2.2.2.2.2.2.2.2.2.2.1), o43.2.2.2.2.2.2.2.2.2.2.2.2.2.1, o43.2.2.2.2.2.2.2.2.2.2.2.2.2.2.1, o43.2.2.2.2.2.2.2.2.2.2.2.2.2.2.2.1, o43.2.2.2.2.2.2.2.2.2.2.2.2.2.2.2.2.1, (o43.2.2.2.2.2.2.2.2.2.2.2.2.2.2.2.2.2.1, o43.2.2.2.2.2.2.2.2.2.2.2.2.2.2.2.2.2.2.1), o43.2.2.2.2.2.2.2.2.2.2.2.2.2.2.2.2.2.2.2)] H locs := hw
      subst hQ
      exact k_iret hx hb hr hlk hw dX11_planByte_133
    · have hsp := ift c4 hsp
      refine lv_iconst (v := 0) hx hb dX11_planByte_17 (by decide) ?_
      have hsp := Option.some.inj hsp
      subst hsp
      have hw : ww A s.heap D [w11 cA a0 o3.2] H locs := hw
      subst hQ
      exact k_iret hx hb hr hlk hw dX11_planByte_18
  have hsp := hsj2
  refine lv_if_lt (tgt := 9) hx hb dX11_planByte_2 (by decide) (fun c63 => ?_) (fun c63 => ?_)
  · have hsp := ift c63 hsp
    refine lv_iconst (v := 0) hx hb dX11_planByte_9 (by decide) ?_
    have hsp := Option.some.inj hsp
    subst hsp
    exact Jj2 _ _ _ hw (lv_sub hl [0, 1] rfl)
  · have hsp := iff_ c63 hsp
    refine lv_iconst (v := 1) hx hb dX11_planByte_5 (by decide) ?_
    refine lv_goto (tgt := 10) hx hb dX11_planByte_6 (by decide) ?_
    have hsp := Option.some.inj hsp
    subst hsp
    exact Jj2 _ _ _ hw (lv_sub hl [0, 1] rfl)
noncomputable def sX11_covers (v0 : V11) (p1 : Int32) (p2 : Int32) : Option (Int32) := (grd (vp_in ((70 : Int32) + ((3 : Int32) * p1)) v0.1.1) (grd (vp_in (((70 : Int32) + ((3 : Int32) * p1)) + (1 : Int32)) v0.1.1) ((sX11_in p2.toInt64 ((v0.1.2 ((70 : Int32) + ((3 : Int32) * p1)).toNatClampNeg).toInt64) ((v0.1.2 (((70 : Int32) + ((3 : Int32) * p1)) + (1 : Int32)).toNatClampNeg).toInt64)).bind (fun o3 => (grd (isz o3) (some o3))))))
abbrev rX11_covers : Room := { frames := 1, cells := 0, slots := 0, locals := 25 }
set_option maxHeartbeats 4000000 in
set_option maxRecDepth 100000 in
theorem mX11_covers (l : Launch) (D : va_G) (cA cR : ClassId) (a0 : A11) (v0 : V11) (p1 : Int32) (p2 : Int32) (o : Int32) (hsp : sX11_covers v0 p1 p2 = some o) : MI l yX11_covers wsX11_covers rX11_covers D cA cR [.ref a0.1, .int p1, .int p2] [w11 cA a0 v0] (some (.int o)) [w11 cA a0 v0] 0 0 := by
  have hsp : (grd (vp_in ((70 : Int32) + ((3 : Int32) * p1)) v0.1.1) (grd (vp_in (((70 : Int32) + ((3 : Int32) * p1)) + (1 : Int32)) v0.1.1) ((sX11_in p2.toInt64 ((v0.1.2 ((70 : Int32) + ((3 : Int32) * p1)).toNatClampNeg).toInt64) ((v0.1.2 (((70 : Int32) + ((3 : Int32) * p1)) + (1 : Int32)).toNatClampNeg).toInt64)).bind (fun o3 => (grd (isz o3) (some o3)))))) = some o := hsp
  refine MI.ofW (cc := cX11_covers) (maxL := 3) (ret := (some .boolean)) (by decide) rfl (Nat.le_of_ble_eq_true rfl) ?_
  intro p e s m args below meth c A ls Q H locs hx hb hr hlk hml hown hnm hts hz hA hQ hw hl
  have hl : lv_has ls 3 [(0, .ref a0.1), (1, .int p1), (2, .int p2)] := hl
  have hw : ww A s.heap D [[(a0.1, .inr (11, [.ref a0.2.1, .ref a0.2.2.1, .int v0.2.2.1, .int v0.2.2.2.1, .ref a0.2.2.2.1, .int v0.2.2.2.2.2.1, .int v0.2.2.2.2.2.2.1, .ref a0.2.2.2.2.1, .int v0.2.2.2.2.2.2.2.2.1, .int v0.2.2.2.2.2.2.2.2.2.1, .int v0.2.2.2.2.2.2.2.2.2.2.1, .int v0.2.2.2.2.2.2.2.2.2.2.2.1, .ref a0.2.2.2.2.2, .int v0.2.2.2.2.2.2.2.2.2.2.2.2.2]))], [(a0.2.1, .inl (cA, v0.1.1, .inl v0.1.2))], [(a0.2.2.1, .inl (cA, v0.2.1.1, .inl v0.2.1.2))], [(a0.2.2.2.1, .inl (cA, v0.2.2.2.2.1.1, .inl v0.2.2.2.2.1.2))], [(a0.2.2.2.2.1, .inl (cA, v0.2.2.2.2.2.2.2.1.1, .inl v0.2.2.2.2.2.2.2.1.2))], [(a0.2.2.2.2.2, .inl (cA, v0.2.2.2.2.2.2.2.2.2.2.2.2.1.1, .inl v0.2.2.2.2.2.2.2.2.2.2.2.2.1.2))]] H locs := hw
  refine lv_iload_n hx hb dX11_covers_0 rfl (lv_at hl 2 rfl) ?_
  refine lv_i2l hx hb dX11_covers_1 rfl ?_
  refine lv_aload_n hx hb dX11_covers_2 rfl (lv_at hl 0 rfl) ?_
  refine k_get (ci := 11) (v := .ref a0.2.1) (C := RX11) (T := TX11) (N := 14) hx hb hts hown hz hw (by decide +kernel) 0 rfl rfl 0 (by decide) (hts (.fieldLink RX11 7 "OccupancyMonitorModel" "all" "[I") (by decide +kernel)) (fun _ h9 => h9) rfl dX11_covers_3 ?_
  refine lv_bipush (v := 70) hx hb dX11_covers_6 (by decide) ?_
  refine lv_iconst (v := 3) hx hb dX11_covers_8 (by decide) ?_
  refine lv_iload_n hx hb dX11_covers_9 rfl (lv_at hl 1 rfl) ?_
  refine lv_imul hx hb dX11_covers_10 ?_
  refine lv_iadd hx hb dX11_covers_11 ?_
  obtain ⟨g1, hsp⟩ := grd_of hsp
  refine k_iald hx hb hz hw 1 rfl g1 dX11_covers_12 ?_
  refine lv_i2l hx hb dX11_covers_13 rfl ?_
  refine lv_aload_n hx hb dX11_covers_14 rfl (lv_at hl 0 rfl) ?_
  refine k_get (ci := 11) (v := .ref a0.2.1) (C := RX11) (T := TX11) (N := 14) hx hb hts hown hz hw (by decide +kernel) 0 rfl rfl 0 (by decide) (hts (.fieldLink RX11 7 "OccupancyMonitorModel" "all" "[I") (by decide +kernel)) (fun _ h9 => h9) rfl dX11_covers_15 ?_
  refine lv_bipush (v := 70) hx hb dX11_covers_18 (by decide) ?_
  refine lv_iconst (v := 3) hx hb dX11_covers_20 (by decide) ?_
  refine lv_iload_n hx hb dX11_covers_21 rfl (lv_at hl 1 rfl) ?_
  refine lv_imul hx hb dX11_covers_22 ?_
  refine lv_iadd hx hb dX11_covers_23 ?_
  refine lv_iconst (v := 1) hx hb dX11_covers_24 (by decide) ?_
  refine lv_iadd hx hb dX11_covers_25 ?_
  obtain ⟨g2, hsp⟩ := grd_of hsp
  refine k_iald hx hb hz hw 1 rfl g2 dX11_covers_26 ?_
  refine lv_i2l hx hb dX11_covers_27 rfl ?_
  obtain ⟨o3, hso3, hsp⟩ := bnd_of hsp
  refine k_callS (nA := 3) (As := [.long p2.toInt64, .long (v0.1.2 ((70 : Int32) + ((3 : Int32) * p1)).toNatClampNeg).toInt64, .long (v0.1.2 (((70 : Int32) + ((3 : Int32) * p1)) + (1 : Int32)).toNatClampNeg).toInt64]) (cs := []) (rs := [[(a0.1, .inr (11, [.ref a0.2.1, .ref a0.2.2.1, .int v0.2.2.1, .int v0.2.2.2.1, .ref a0.2.2.2.1, .int v0.2.2.2.2.2.1, .int v0.2.2.2.2.2.2.1, .ref a0.2.2.2.2.1, .int v0.2.2.2.2.2.2.2.2.1, .int v0.2.2.2.2.2.2.2.2.2.1, .int v0.2.2.2.2.2.2.2.2.2.2.1, .int v0.2.2.2.2.2.2.2.2.2.2.2.1, .ref a0.2.2.2.2.2, .int v0.2.2.2.2.2.2.2.2.2.2.2.2.2]))], [(a0.2.1, .inl (cA, v0.1.1, .inl v0.1.2))], [(a0.2.2.1, .inl (cA, v0.2.1.1, .inl v0.2.1.2))], [(a0.2.2.2.1, .inl (cA, v0.2.2.2.2.1.1, .inl v0.2.2.2.2.1.2))], [(a0.2.2.2.2.1, .inl (cA, v0.2.2.2.2.2.2.2.1.1, .inl v0.2.2.2.2.2.2.2.1.2))], [(a0.2.2.2.2.2, .inl (cA, v0.2.2.2.2.2.2.2.2.2.2.2.2.1.1, .inl v0.2.2.2.2.2.2.2.2.2.2.2.2.1.2))]]) (cs1 := []) (bs1 := [[(a0.1, .inr (11, [.ref a0.2.1, .ref a0.2.2.1, .int v0.2.2.1, .int v0.2.2.2.1, .ref a0.2.2.2.1, .int v0.2.2.2.2.2.1, .int v0.2.2.2.2.2.2.1, .ref a0.2.2.2.2.1, .int v0.2.2.2.2.2.2.2.2.1, .int v0.2.2.2.2.2.2.2.2.2.1, .int v0.2.2.2.2.2.2.2.2.2.2.1, .int v0.2.2.2.2.2.2.2.2.2.2.2.1, .ref a0.2.2.2.2.2, .int v0.2.2.2.2.2.2.2.2.2.2.2.2.2]))], [(a0.2.1, .inl (cA, v0.1.1, .inl v0.1.2))], [(a0.2.2.1, .inl (cA, v0.2.1.1, .inl v0.2.1.2))], [(a0.2.2.2.1, .inl (cA, v0.2.2.2.2.1.1, .inl v0.2.2.2.2.1.2))], [(a0.2.2.2.2.1, .inl (cA, v0.2.2.2.2.2.2.2.1.1, .inl v0.2.2.2.2.2.2.2.1.2))], [(a0.2.2.2.2.2, .inl (cA, v0.2.2.2.2.2.2.2.2.2.2.2.2.1.1, .inl v0.2.2.2.2.2.2.2.2.2.2.2.2.1.2))]]) (rest := []) (st1 := [.int o3]) ⟨hx, hb, hml, hown, hts⟩ hz hw hA (mX11_in l D cA cR p2.toInt64 ((v0.1.2 ((70 : Int32) + ((3 : Int32) * p1)).toNatClampNeg).toInt64) ((v0.1.2 (((70 : Int32) + ((3 : Int32) * p1)) + (1 : Int32)).toNatClampNeg).toInt64) o3 hso3) gX11_covers_X11_in rfl rfl rfl (by decide +kernel) rfl ⟨Nat.le_of_ble_eq_true rfl, Nat.le_of_ble_eq_true rfl⟩ hl.1 rfl (Nat.le_of_ble_eq_true rfl) dX11_covers_28 ⟨Nat.le_of_ble_eq_true rfl, Nat.le_of_ble_eq_true rfl⟩ [] [0, 1, 2, 3, 4, 5] [0, 1, 2, 3, 4, 5] rfl rfl rfl rfl rfl rfl (fun H locs hw => ?_)
  obtain ⟨g4, hsp⟩ := grd_of hsp
  have hsp := Option.some.inj hsp
  subst hsp
  have hw : ww A s.heap D [w11 cA a0 v0] H locs := hw
  subst hQ
  exact k_zret (v := o3) hx hb hr hlk g4 hw dX11_covers_31
noncomputable def qX11_revisit_53 (p1 : Int32) (o2 : Int32 × V11) (x125 : Int32) : Nat → Int32 → Int32 → Int32 → Int32 → Option (Int32 × Int32 × Int32 × Int32)
  | 0, _, _, _, _ => none
  | n53 + 1, z53_0, z53_1, z53_2, z53_3 => (grd (vp_in (((70 : Int32) + ((3 : Int32) * x125)) + (2 : Int32)) o2.2.1.1) (if (o2.2.1.2 (((70 : Int32) + ((3 : Int32) * x125)) + (2 : Int32)).toNatClampNeg) ≤ z53_3 then (some (z53_0, z53_1, z53_2, z53_3)) else ((sX11_covers o2.2 x125 p1).bind (fun o161 => (((if o161 = 0 then (some (z53_1, z53_2)) else (((if z53_1 = (-1 : Int32) then (some z53_2) else (if (z53_0 - z53_1) ≤ z53_2 then (some z53_2) else (some (z53_0 - z53_1)))) : Option (Int32)).bind (fun j172 => (some (z53_0, j172))))) : Option (Int32 × Int32)).bind (fun j168 => (qX11_revisit_53 p1 o2 x125 n53 (z53_0 + 1) j168.1 j168.2 (z53_3 + 1))))))))
noncomputable def qX11_revisit_24 (N : Nat) (p1 : Int32) (o2 : Int32 × V11) : Nat → Int32 → Int32 → Int32 → Int32 → Option (Int32 × Int32 × Int32 × Int32)
  | 0, _, _, _, _ => none
  | n24 + 1, z24_0, z24_1, z24_2, z24_3 => (grd (vp_in (6 : Int32) o2.2.1.1) (if ((2 : Int32) * (o2.2.1.2 (6 : Int32).toNatClampNeg)) ≤ z24_3 then (some (z24_0, z24_1, z24_2, z24_3)) else (grd (vp_in (6 : Int32) o2.2.1.1) (grd (¬ (o2.2.1.2 (6 : Int32).toNatClampNeg) = 0) (lt_ (z24_3 - z24_3 / (o2.2.1.2 (6 : Int32).toNatClampNeg) * (o2.2.1.2 (6 : Int32).toNatClampNeg)) (fun x125 => ((qX11_revisit_53 p1 o2 x125 N z24_0 z24_1 z24_2 (0 : Int32)).bind (fun o158 => (qX11_revisit_24 N p1 o2 n24 o158.1 o158.2.1 o158.2.2.1 (z24_3 + 1))))))))))
noncomputable def sX11_revisit (N : Nat) (v0 : V11) (p1 : Int32) : Option (Int32 × V11) := ((sX11_isChannel p1).bind (fun o1 => ((sX11_goes v0 o1 (1 : Int32)).bind (fun o2 => (if o2.1 = 0 then (some ((0 : Int32), o2.2)) else ((qX11_revisit_24 N p1 o2 N (0 : Int32) (-1 : Int32) (-1 : Int32) (0 : Int32)).bind (fun o120 => (some (o120.2.2.1, o2.2)))))))))
abbrev rX11_revisit : Room := { frames := 2, cells := 0, slots := 0, locals := 47 }
set_option maxHeartbeats 4000000 in
set_option maxRecDepth 100000 in
theorem mX11_revisit (l : Launch) (D : va_G) (cA cR : ClassId) (N : Nat) (a0 : A11) (v0 : V11) (p1 : Int32) (o : Int32 × V11) (hsp : sX11_revisit N v0 p1 = some o) : MI l yX11_revisit wsX11_revisit rX11_revisit D cA cR [.ref a0.1, .int p1] [w11 cA a0 v0] (some (.int o.1)) [w11 cA a0 o.2] 0 0 := by
  have hsp : ((sX11_isChannel p1).bind (fun o1 => ((sX11_goes v0 o1 (1 : Int32)).bind (fun o2 => (if o2.1 = 0 then (some ((0 : Int32), o2.2)) else ((qX11_revisit_24 N p1 o2 N (0 : Int32) (-1 : Int32) (-1 : Int32) (0 : Int32)).bind (fun o120 => (some (o120.2.2.1, o2.2))))))))) = some o := hsp
  refine MI.ofW (cc := cX11_revisit) (maxL := 8) (ret := (some .int)) (by decide) rfl (Nat.le_of_ble_eq_true rfl) ?_
  intro p e s m args below meth c A ls Q H locs hx hb hr hlk hml hown hnm hts hz hA hQ hw hl
  have hl : lv_has ls 8 [(0, .ref a0.1), (1, .int p1)] := hl
  have hw : ww A s.heap D [[(a0.1, .inr (11, [.ref a0.2.1, .ref a0.2.2.1, .int v0.2.2.1, .int v0.2.2.2.1, .ref a0.2.2.2.1, .int v0.2.2.2.2.2.1, .int v0.2.2.2.2.2.2.1, .ref a0.2.2.2.2.1, .int v0.2.2.2.2.2.2.2.2.1, .int v0.2.2.2.2.2.2.2.2.2.1, .int v0.2.2.2.2.2.2.2.2.2.2.1, .int v0.2.2.2.2.2.2.2.2.2.2.2.1, .ref a0.2.2.2.2.2, .int v0.2.2.2.2.2.2.2.2.2.2.2.2.2]))], [(a0.2.1, .inl (cA, v0.1.1, .inl v0.1.2))], [(a0.2.2.1, .inl (cA, v0.2.1.1, .inl v0.2.1.2))], [(a0.2.2.2.1, .inl (cA, v0.2.2.2.2.1.1, .inl v0.2.2.2.2.1.2))], [(a0.2.2.2.2.1, .inl (cA, v0.2.2.2.2.2.2.2.1.1, .inl v0.2.2.2.2.2.2.2.1.2))], [(a0.2.2.2.2.2, .inl (cA, v0.2.2.2.2.2.2.2.2.2.2.2.2.1.1, .inl v0.2.2.2.2.2.2.2.2.2.2.2.2.1.2))]] H locs := hw
  refine lv_aload_n hx hb dX11_revisit_0 rfl (lv_at hl 0 rfl) ?_
  refine lv_iload_n hx hb dX11_revisit_1 rfl (lv_at hl 1 rfl) ?_
  obtain ⟨o1, hso1, hsp⟩ := bnd_of hsp
  refine k_callS (nA := 1) (As := [.int p1]) (cs := []) (rs := [[(a0.1, .inr (11, [.ref a0.2.1, .ref a0.2.2.1, .int v0.2.2.1, .int v0.2.2.2.1, .ref a0.2.2.2.1, .int v0.2.2.2.2.2.1, .int v0.2.2.2.2.2.2.1, .ref a0.2.2.2.2.1, .int v0.2.2.2.2.2.2.2.2.1, .int v0.2.2.2.2.2.2.2.2.2.1, .int v0.2.2.2.2.2.2.2.2.2.2.1, .int v0.2.2.2.2.2.2.2.2.2.2.2.1, .ref a0.2.2.2.2.2, .int v0.2.2.2.2.2.2.2.2.2.2.2.2.2]))], [(a0.2.1, .inl (cA, v0.1.1, .inl v0.1.2))], [(a0.2.2.1, .inl (cA, v0.2.1.1, .inl v0.2.1.2))], [(a0.2.2.2.1, .inl (cA, v0.2.2.2.2.1.1, .inl v0.2.2.2.2.1.2))], [(a0.2.2.2.2.1, .inl (cA, v0.2.2.2.2.2.2.2.1.1, .inl v0.2.2.2.2.2.2.2.1.2))], [(a0.2.2.2.2.2, .inl (cA, v0.2.2.2.2.2.2.2.2.2.2.2.2.1.1, .inl v0.2.2.2.2.2.2.2.2.2.2.2.2.1.2))]]) (cs1 := []) (bs1 := [[(a0.1, .inr (11, [.ref a0.2.1, .ref a0.2.2.1, .int v0.2.2.1, .int v0.2.2.2.1, .ref a0.2.2.2.1, .int v0.2.2.2.2.2.1, .int v0.2.2.2.2.2.2.1, .ref a0.2.2.2.2.1, .int v0.2.2.2.2.2.2.2.2.1, .int v0.2.2.2.2.2.2.2.2.2.1, .int v0.2.2.2.2.2.2.2.2.2.2.1, .int v0.2.2.2.2.2.2.2.2.2.2.2.1, .ref a0.2.2.2.2.2, .int v0.2.2.2.2.2.2.2.2.2.2.2.2.2]))], [(a0.2.1, .inl (cA, v0.1.1, .inl v0.1.2))], [(a0.2.2.1, .inl (cA, v0.2.1.1, .inl v0.2.1.2))], [(a0.2.2.2.1, .inl (cA, v0.2.2.2.2.1.1, .inl v0.2.2.2.2.1.2))], [(a0.2.2.2.2.1, .inl (cA, v0.2.2.2.2.2.2.2.1.1, .inl v0.2.2.2.2.2.2.2.1.2))], [(a0.2.2.2.2.2, .inl (cA, v0.2.2.2.2.2.2.2.2.2.2.2.2.1.1, .inl v0.2.2.2.2.2.2.2.2.2.2.2.2.1.2))]]) (rest := [.ref a0.1]) (st1 := [.int o1, .ref a0.1]) ⟨hx, hb, hml, hown, hts⟩ hz hw hA (mX11_isChannel l D cA cR p1 o1 hso1) gX11_revisit_X11_isChannel rfl rfl rfl (by decide +kernel) rfl ⟨Nat.le_of_ble_eq_true rfl, Nat.le_of_ble_eq_true rfl⟩ hl.1 rfl (Nat.le_of_ble_eq_true rfl) dX11_revisit_2 ⟨Nat.le_of_ble_eq_true rfl, Nat.le_of_ble_eq_true rfl⟩ [] [0, 1, 2, 3, 4, 5] [0, 1, 2, 3, 4, 5] rfl rfl rfl rfl rfl rfl (fun H locs hw => ?_)
  refine lv_iconst (v := 1) hx hb dX11_revisit_5 (by decide) ?_
  have hw : ww A s.heap D [w11 cA a0 v0] H locs := hw
  obtain ⟨o2, hso2, hsp⟩ := bnd_of hsp
  refine k_callV (ci := 11) (C := RX11) (T := TX11) (N := 14) (nA := 2) (As := [.int o1, .int (1 : Int32)]) (cs := [w11 cA a0 v0]) (rs := []) (cs1 := [w11 cA a0 o2.2]) (bs1 := [w11 cA a0 o2.2]) (rest := []) (st1 := [.int o2.1]) ⟨hx, hb, hml, hown, hts⟩ hz hw hA (mX11_goes l D cA cR a0 v0 o1 (1 : Int32) o2 hso2) gX11_revisit_X11_goes rfl rfl rfl (by decide +kernel) rfl ⟨Nat.le_of_ble_eq_true rfl, Nat.le_of_ble_eq_true rfl⟩ rfl rfl hl.1 rfl (Nat.le_of_ble_eq_true rfl) dX11_revisit_6 ⟨Nat.le_of_ble_eq_true rfl, Nat.le_of_ble_eq_true rfl⟩ [0] [] [0] rfl rfl rfl rfl rfl rfl (fun H locs hw => ?_)
  have hw : ww A s.heap D [[(a0.1, .inr (11, [.ref a0.2.1, .ref a0.2.2.1, .int o2.2.2.2.1, .int o2.2.2.2.2.1, .ref a0.2.2.2.1, .int o2.2.2.2.2.2.2.1, .int o2.2.2.2.2.2.2.2.1, .ref a0.2.2.2.2.1, .int o2.2.2.2.2.2.2.2.2.2.1, .int o2.2.2.2.2.2.2.2.2.2.2.1, .int o2.2.2.2.2.2.2.2.2.2.2.2.1, .int o2.2.2.2.2.2.2.2.2.2.2.2.2.1, .ref a0.2.2.2.2.2, .int o2.2.2.2.2.2.2.2.2.2.2.2.2.2.2]))], [(a0.2.1, .inl (cA, o2.2.1.1, .inl o2.2.1.2))], [(a0.2.2.1, .inl (cA, o2.2.2.1.1, .inl o2.2.2.1.2))], [(a0.2.2.2.1, .inl (cA, o2.2.2.2.2.2.1.1, .inl o2.2.2.2.2.2.1.2))], [(a0.2.2.2.2.1, .inl (cA, o2.2.2.2.2.2.2.2.2.1.1, .inl o2.2.2.2.2.2.2.2.2.1.2))], [(a0.2.2.2.2.2, .inl (cA, o2.2.2.2.2.2.2.2.2.2.2.2.2.2.1.1, .inl o2.2.2.2.2.2.2.2.2.2.2.2.2.2.1.2))]] H locs := hw
  refine lv_if_ne (tgt := 14) hx hb dX11_revisit_9 (by decide) (fun c3 => ?_) (fun c3 => ?_)
  · have hsp := iff_ c3 hsp
    refine lv_iconst (v := 0) hx hb dX11_revisit_14 (by decide) ?_
    refine lv_istore_n (lv' := [(2, .int (0 : Int32)), (0, .ref a0.1), (1, .int p1)]) hx hb dX11_revisit_15 rfl hl (by decide) rfl (fun ls hl => ?_)
    refine lv_iconst (v := -1) hx hb dX11_revisit_16 (by decide) ?_
    refine lv_istore_n (lv' := [(3, .int (-1 : Int32)), (2, .int (0 : Int32)), (0, .ref a0.1), (1, .int p1)]) hx hb dX11_revisit_17 rfl hl (by decide) rfl (fun ls hl => ?_)
    refine lv_iconst (v := -1) hx hb dX11_revisit_18 (by decide) ?_
    refine lv_istore (lv' := [(4, .int (-1 : Int32)), (3, .int (-1 : Int32)), (2, .int (0 : Int32)), (0, .ref a0.1), (1, .int p1)]) hx hb dX11_revisit_19 hl (by decide) rfl (fun ls hl => ?_)
    refine lv_iconst (v := 0) hx hb dX11_revisit_21 (by decide) ?_
    refine lv_istore (lv' := [(5, .int (0 : Int32)), (4, .int (-1 : Int32)), (3, .int (-1 : Int32)), (2, .int (0 : Int32)), (0, .ref a0.1), (1, .int p1)]) hx hb dX11_revisit_22 hl (by decide) rfl (fun ls hl => ?_)
    have L24 : ∀ (n24 : Nat) (z24_0 : Int32) (z24_1 : Int32) (z24_2 : Int32) (z24_3 : Int32) (o120 : Int32 × Int32 × Int32 × Int32), qX11_revisit_24 N p1 o2 n24 z24_0 z24_1 z24_2 z24_3 = some o120 → ∀ (H : Heap) (locs : List Loc) (ls : Array Slot), ww A s.heap D [[(a0.1, .inr (11, [.ref a0.2.1, .ref a0.2.2.1, .int o2.2.2.2.1, .int o2.2.2.2.2.1, .ref a0.2.2.2.1, .int o2.2.2.2.2.2.2.1, .int o2.2.2.2.2.2.2.2.1, .ref a0.2.2.2.2.1, .int o2.2.2.2.2.2.2.2.2.2.1, .int o2.2.2.2.2.2.2.2.2.2.2.1, .int o2.2.2.2.2.2.2.2.2.2.2.2.1, .int o2.2.2.2.2.2.2.2.2.2.2.2.2.1, .ref a0.2.2.2.2.2, .int o2.2.2.2.2.2.2.2.2.2.2.2.2.2.2]))], [(a0.2.1, .inl (cA, o2.2.1.1, .inl o2.2.1.2))], [(a0.2.2.1, .inl (cA, o2.2.2.1.1, .inl o2.2.2.1.2))], [(a0.2.2.2.1, .inl (cA, o2.2.2.2.2.2.1.1, .inl o2.2.2.2.2.2.1.2))], [(a0.2.2.2.2.1, .inl (cA, o2.2.2.2.2.2.2.2.2.1.1, .inl o2.2.2.2.2.2.2.2.2.1.2))], [(a0.2.2.2.2.2, .inl (cA, o2.2.2.2.2.2.2.2.2.2.2.2.2.2.1.1, .inl o2.2.2.2.2.2.2.2.2.2.2.2.2.2.1.2))]] H locs → lv_has ls 8 [(0, .ref a0.1), (1, .int p1), (2, .int z24_0), (3, .int z24_1), (4, .int z24_2), (5, .int z24_3)] → (∀ (y122 : Int32 × Int32 × Int32 × Int32), o120 = y122 → ∀ (H : Heap) (locs : List Loc) (ls : Array Slot), ww A s.heap D [[(a0.1, .inr (11, [.ref a0.2.1, .ref a0.2.2.1, .int o2.2.2.2.1, .int o2.2.2.2.2.1, .ref a0.2.2.2.1, .int o2.2.2.2.2.2.2.1, .int o2.2.2.2.2.2.2.2.1, .ref a0.2.2.2.2.1, .int o2.2.2.2.2.2.2.2.2.2.1, .int o2.2.2.2.2.2.2.2.2.2.2.1, .int o2.2.2.2.2.2.2.2.2.2.2.2.1, .int o2.2.2.2.2.2.2.2.2.2.2.2.2.1, .ref a0.2.2.2.2.2, .int o2.2.2.2.2.2.2.2.2.2.2.2.2.2.2]))], [(a0.2.1, .inl (cA, o2.2.1.1, .inl o2.2.1.2))], [(a0.2.2.1, .inl (cA, o2.2.2.1.1, .inl o2.2.2.1.2))], [(a0.2.2.2.1, .inl (cA, o2.2.2.2.2.2.1.1, .inl o2.2.2.2.2.2.1.2))], [(a0.2.2.2.2.1, .inl (cA, o2.2.2.2.2.2.2.2.2.1.1, .inl o2.2.2.2.2.2.2.2.2.1.2))], [(a0.2.2.2.2.2, .inl (cA, o2.2.2.2.2.2.2.2.2.2.2.2.2.2.1.1, .inl o2.2.2.2.2.2.2.2.2.2.2.2.2.2.1.2))]] H locs → lv_has ls 8 [(0, .ref a0.1), (1, .int p1), (2, .int y122.1), (3, .int y122.2.1), (4, .int y122.2.2.1), (5, .int y122.2.2.2)] → W p l e rX11_revisit s m args below meth c H locs 0 0 Q (F0 m 122 ls [])) → W p l e rX11_revisit s m args below meth c H locs 0 0 Q (F0 m 24 ls []) := by
      intro n24
      induction n24 with
      | zero => intro z24_0 z24_1 z24_2 z24_3 o120 hsp; cases hsp
      | succ n24 ih24 =>
        intro z24_0 z24_1 z24_2 z24_3 o120 hsp H locs ls hw hl kx24_122
        have hsp : (grd (vp_in (6 : Int32) o2.2.1.1) (if ((2 : Int32) * (o2.2.1.2 (6 : Int32).toNatClampNeg)) ≤ z24_3 then (some (z24_0, z24_1, z24_2, z24_3)) else (grd (vp_in (6 : Int32) o2.2.1.1) (grd (¬ (o2.2.1.2 (6 : Int32).toNatClampNeg) = 0) (lt_ (z24_3 - z24_3 / (o2.2.1.2 (6 : Int32).toNatClampNeg) * (o2.2.1.2 (6 : Int32).toNatClampNeg)) (fun x125 => ((qX11_revisit_53 p1 o2 x125 N z24_0 z24_1 z24_2 (0 : Int32)).bind (fun o158 => (qX11_revisit_24 N p1 o2 n24 o158.1 o158.2.1 o158.2.2.1 (z24_3 + 1)))))))))) = some o120 := hsp
        refine lv_iload hx hb dX11_revisit_24 (lv_at hl 5 rfl) ?_
        refine lv_iconst (v := 2) hx hb dX11_revisit_26 (by decide) ?_
        refine lv_aload_n hx hb dX11_revisit_27 rfl (lv_at hl 0 rfl) ?_
        refine k_get (ci := 11) (v := .ref a0.2.1) (C := RX11) (T := TX11) (N := 14) hx hb hts hown hz hw (by decide +kernel) 0 rfl rfl 0 (by decide) (hts (.fieldLink RX11 7 "OccupancyMonitorModel" "all" "[I") (by decide +kernel)) (fun _ h9 => h9) rfl dX11_revisit_28 ?_
        refine lv_bipush (v := 6) hx hb dX11_revisit_31 (by decide) ?_
        obtain ⟨g121, hsp⟩ := grd_of hsp
        refine k_iald hx hb hz hw 1 rfl g121 dX11_revisit_33 ?_
        refine lv_imul hx hb dX11_revisit_34 ?_
        refine lv_icmp_ge (tgt := 122) hx hb dX11_revisit_35 (by decide) (fun c122 => ?_) (fun c122 => ?_)
        · have hsp := ift c122 hsp
          have hsp := Option.some.inj hsp
          subst hsp
          exact kx24_122 _ rfl _ _ _ hw (lv_sub hl [0, 1, 2, 3, 4, 5] rfl)
        · have hsp := iff_ c122 hsp
          refine lv_iload hx hb dX11_revisit_38 (lv_at hl 5 rfl) ?_
          refine lv_aload_n hx hb dX11_revisit_40 rfl (lv_at hl 0 rfl) ?_
          refine k_get (ci := 11) (v := .ref a0.2.1) (C := RX11) (T := TX11) (N := 14) hx hb hts hown hz hw (by decide +kernel) 0 rfl rfl 0 (by decide) (hts (.fieldLink RX11 7 "OccupancyMonitorModel" "all" "[I") (by decide +kernel)) (fun _ h9 => h9) rfl dX11_revisit_41 ?_
          refine lv_bipush (v := 6) hx hb dX11_revisit_44 (by decide) ?_
          obtain ⟨g123, hsp⟩ := grd_of hsp
          refine k_iald hx hb hz hw 1 rfl g123 dX11_revisit_46 ?_
          obtain ⟨g124, hsp⟩ := grd_of hsp
          refine lv_irem hx hb dX11_revisit_47 g124 ?_
          refine lv_topi (fun x125 ex125 => ?_)
          have hsp := lt_of hsp ex125
          refine lv_istore (lv' := [(6, .int x125), (0, .ref a0.1), (1, .int p1), (2, .int z24_0), (3, .int z24_1), (4, .int z24_2), (5, .int z24_3)]) hx hb dX11_revisit_48 hl (by decide) rfl (fun ls hl => ?_)
          refine lv_iconst (v := 0) hx hb dX11_revisit_50 (by decide) ?_
          refine lv_istore (lv' := [(7, .int (0 : Int32)), (6, .int x125), (0, .ref a0.1), (1, .int p1), (2, .int z24_0), (3, .int z24_1), (4, .int z24_2), (5, .int z24_3)]) hx hb dX11_revisit_51 hl (by decide) rfl (fun ls hl => ?_)
          have L53 : ∀ (n53 : Nat) (z53_0 : Int32) (z53_1 : Int32) (z53_2 : Int32) (z53_3 : Int32) (o158 : Int32 × Int32 × Int32 × Int32), qX11_revisit_53 p1 o2 x125 n53 z53_0 z53_1 z53_2 z53_3 = some o158 → ∀ (H : Heap) (locs : List Loc) (ls : Array Slot), ww A s.heap D [[(a0.1, .inr (11, [.ref a0.2.1, .ref a0.2.2.1, .int o2.2.2.2.1, .int o2.2.2.2.2.1, .ref a0.2.2.2.1, .int o2.2.2.2.2.2.2.1, .int o2.2.2.2.2.2.2.2.1, .ref a0.2.2.2.2.1, .int o2.2.2.2.2.2.2.2.2.2.1, .int o2.2.2.2.2.2.2.2.2.2.2.1, .int o2.2.2.2.2.2.2.2.2.2.2.2.1, .int o2.2.2.2.2.2.2.2.2.2.2.2.2.1, .ref a0.2.2.2.2.2, .int o2.2.2.2.2.2.2.2.2.2.2.2.2.2.2]))], [(a0.2.1, .inl (cA, o2.2.1.1, .inl o2.2.1.2))], [(a0.2.2.1, .inl (cA, o2.2.2.1.1, .inl o2.2.2.1.2))], [(a0.2.2.2.1, .inl (cA, o2.2.2.2.2.2.1.1, .inl o2.2.2.2.2.2.1.2))], [(a0.2.2.2.2.1, .inl (cA, o2.2.2.2.2.2.2.2.2.1.1, .inl o2.2.2.2.2.2.2.2.2.1.2))], [(a0.2.2.2.2.2, .inl (cA, o2.2.2.2.2.2.2.2.2.2.2.2.2.2.1.1, .inl o2.2.2.2.2.2.2.2.2.2.2.2.2.2.1.2))]] H locs → lv_has ls 8 [(0, .ref a0.1), (1, .int p1), (2, .int z53_0), (3, .int z53_1), (4, .int z53_2), (5, .int z24_3), (6, .int x125), (7, .int z53_3)] → (∀ (y116 : Int32 × Int32 × Int32 × Int32), o158 = y116 → ∀ (H : Heap) (locs : List Loc) (ls : Array Slot), ww A s.heap D [[(a0.1, .inr (11, [.ref a0.2.1, .ref a0.2.2.1, .int o2.2.2.2.1, .int o2.2.2.2.2.1, .ref a0.2.2.2.1, .int o2.2.2.2.2.2.2.1, .int o2.2.2.2.2.2.2.2.1, .ref a0.2.2.2.2.1, .int o2.2.2.2.2.2.2.2.2.2.1, .int o2.2.2.2.2.2.2.2.2.2.2.1, .int o2.2.2.2.2.2.2.2.2.2.2.2.1, .int o2.2.2.2.2.2.2.2.2.2.2.2.2.1, .ref a0.2.2.2.2.2, .int o2.2.2.2.2.2.2.2.2.2.2.2.2.2.2]))], [(a0.2.1, .inl (cA, o2.2.1.1, .inl o2.2.1.2))], [(a0.2.2.1, .inl (cA, o2.2.2.1.1, .inl o2.2.2.1.2))], [(a0.2.2.2.1, .inl (cA, o2.2.2.2.2.2.1.1, .inl o2.2.2.2.2.2.1.2))], [(a0.2.2.2.2.1, .inl (cA, o2.2.2.2.2.2.2.2.2.1.1, .inl o2.2.2.2.2.2.2.2.2.1.2))], [(a0.2.2.2.2.2, .inl (cA, o2.2.2.2.2.2.2.2.2.2.2.2.2.2.1.1, .inl o2.2.2.2.2.2.2.2.2.2.2.2.2.2.1.2))]] H locs → lv_has ls 8 [(0, .ref a0.1), (1, .int p1), (2, .int y116.1), (3, .int y116.2.1), (4, .int y116.2.2.1), (5, .int z24_3), (6, .int x125), (7, .int y116.2.2.2)] → W p l e rX11_revisit s m args below meth c H locs 0 0 Q (F0 m 116 ls [])) → W p l e rX11_revisit s m args below meth c H locs 0 0 Q (F0 m 53 ls []) := by
            intro n53
            induction n53 with
            | zero => intro z53_0 z53_1 z53_2 z53_3 o158 hsp; cases hsp
            | succ n53 ih53 =>
              intro z53_0 z53_1 z53_2 z53_3 o158 hsp H locs ls hw hl kx53_116
              have hsp : (grd (vp_in (((70 : Int32) + ((3 : Int32) * x125)) + (2 : Int32)) o2.2.1.1) (if (o2.2.1.2 (((70 : Int32) + ((3 : Int32) * x125)) + (2 : Int32)).toNatClampNeg) ≤ z53_3 then (some (z53_0, z53_1, z53_2, z53_3)) else ((sX11_covers o2.2 x125 p1).bind (fun o161 => (((if o161 = 0 then (some (z53_1, z53_2)) else (((if z53_1 = (-1 : Int32) then (some z53_2) else (if (z53_0 - z53_1) ≤ z53_2 then (some z53_2) else (some (z53_0 - z53_1)))) : Option (Int32)).bind (fun j172 => (some (z53_0, j172))))) : Option (Int32 × Int32)).bind (fun j168 => (qX11_revisit_53 p1 o2 x125 n53 (z53_0 + 1) j168.1 j168.2 (z53_3 + 1)))))))) = some o158 := hsp
              refine lv_iload hx hb dX11_revisit_53 (lv_at hl 7 rfl) ?_
              refine lv_aload_n hx hb dX11_revisit_55 rfl (lv_at hl 0 rfl) ?_
              refine k_get (ci := 11) (v := .ref a0.2.1) (C := RX11) (T := TX11) (N := 14) hx hb hts hown hz hw (by decide +kernel) 0 rfl rfl 0 (by decide) (hts (.fieldLink RX11 7 "OccupancyMonitorModel" "all" "[I") (by decide +kernel)) (fun _ h9 => h9) rfl dX11_revisit_56 ?_
              refine lv_bipush (v := 70) hx hb dX11_revisit_59 (by decide) ?_
              refine lv_iconst (v := 3) hx hb dX11_revisit_61 (by decide) ?_
              refine lv_iload hx hb dX11_revisit_62 (lv_at hl 6 rfl) ?_
              refine lv_imul hx hb dX11_revisit_64 ?_
              refine lv_iadd hx hb dX11_revisit_65 ?_
              refine lv_iconst (v := 2) hx hb dX11_revisit_66 (by decide) ?_
              refine lv_iadd hx hb dX11_revisit_67 ?_
              obtain ⟨g159, hsp⟩ := grd_of hsp
              refine k_iald hx hb hz hw 1 rfl g159 dX11_revisit_68 ?_
              refine lv_icmp_ge (tgt := 116) hx hb dX11_revisit_69 (by decide) (fun c160 => ?_) (fun c160 => ?_)
              · have hsp := ift c160 hsp
                have hsp := Option.some.inj hsp
                subst hsp
                exact kx53_116 _ rfl _ _ _ hw (lv_sub hl [0, 1, 2, 3, 4, 5, 6, 7] rfl)
              · have hsp := iff_ c160 hsp
                refine lv_aload_n hx hb dX11_revisit_72 rfl (lv_at hl 0 rfl) ?_
                refine lv_iload hx hb dX11_revisit_73 (lv_at hl 6 rfl) ?_
                refine lv_iload_n hx hb dX11_revisit_75 rfl (lv_at hl 1 rfl) ?_
                have hw : ww A s.heap D [w11 cA a0 o2.2] H locs := hw
                obtain ⟨o161, hso161, hsp⟩ := bnd_of hsp
                refine k_callV (ci := 11) (C := RX11) (T := TX11) (N := 14) (nA := 2) (As := [.int x125, .int p1]) (cs := [w11 cA a0 o2.2]) (rs := []) (cs1 := [w11 cA a0 o2.2]) (bs1 := [w11 cA a0 o2.2]) (rest := []) (st1 := [.int o161]) ⟨hx, hb, hml, hown, hts⟩ hz hw hA (mX11_covers l D cA cR a0 o2.2 x125 p1 o161 hso161) gX11_revisit_X11_covers rfl rfl rfl (by decide +kernel) rfl ⟨Nat.le_of_ble_eq_true rfl, Nat.le_of_ble_eq_true rfl⟩ rfl rfl hl.1 rfl (Nat.le_of_ble_eq_true rfl) dX11_revisit_76 ⟨Nat.le_of_ble_eq_true rfl, Nat.le_of_ble_eq_true rfl⟩ [0] [] [0] rfl rfl rfl rfl rfl rfl (fun H locs hw => ?_)
                have hw : ww A s.heap D [[(a0.1, .inr (11, [.ref a0.2.1, .ref a0.2.2.1, .int o2.2.2.2.1, .int o2.2.2.2.2.1, .ref a0.2.2.2.1, .int o2.2.2.2.2.2.2.1, .int o2.2.2.2.2.2.2.2.1, .ref a0.2.2.2.2.1, .int o2.2.2.2.2.2.2.2.2.2.1, .int o2.2.2.2.2.2.2.2.2.2.2.1, .int o2.2.2.2.2.2.2.2.2.2.2.2.1, .int o2.2.2.2.2.2.2.2.2.2.2.2.2.1, .ref a0.2.2.2.2.2, .int o2.2.2.2.2.2.2.2.2.2.2.2.2.2.2]))], [(a0.2.1, .inl (cA, o2.2.1.1, .inl o2.2.1.2))], [(a0.2.2.1, .inl (cA, o2.2.2.1.1, .inl o2.2.2.1.2))], [(a0.2.2.2.1, .inl (cA, o2.2.2.2.2.2.1.1, .inl o2.2.2.2.2.2.1.2))], [(a0.2.2.2.2.1, .inl (cA, o2.2.2.2.2.2.2.2.2.1.1, .inl o2.2.2.2.2.2.2.2.2.1.2))], [(a0.2.2.2.2.2, .inl (cA, o2.2.2.2.2.2.2.2.2.2.2.2.2.2.1.1, .inl o2.2.2.2.2.2.2.2.2.2.2.2.2.2.1.2))]] H locs := hw
                obtain ⟨j168, hsj168, hkj168⟩ := bnd_of hsp
                have Jj168 : ∀ (H : Heap) (locs : List Loc) (ls : Array Slot), ww A s.heap D [[(a0.1, .inr (11, [.ref a0.2.1, .ref a0.2.2.1, .int o2.2.2.2.1, .int o2.2.2.2.2.1, .ref a0.2.2.2.1, .int o2.2.2.2.2.2.2.1, .int o2.2.2.2.2.2.2.2.1, .ref a0.2.2.2.2.1, .int o2.2.2.2.2.2.2.2.2.2.1, .int o2.2.2.2.2.2.2.2.2.2.2.1, .int o2.2.2.2.2.2.2.2.2.2.2.2.1, .int o2.2.2.2.2.2.2.2.2.2.2.2.2.1, .ref a0.2.2.2.2.2, .int o2.2.2.2.2.2.2.2.2.2.2.2.2.2.2]))], [(a0.2.1, .inl (cA, o2.2.1.1, .inl o2.2.1.2))], [(a0.2.2.1, .inl (cA, o2.2.2.1.1, .inl o2.2.2.1.2))], [(a0.2.2.2.1, .inl (cA, o2.2.2.2.2.2.1.1, .inl o2.2.2.2.2.2.1.2))], [(a0.2.2.2.2.1, .inl (cA, o2.2.2.2.2.2.2.2.2.1.1, .inl o2.2.2.2.2.2.2.2.2.1.2))], [(a0.2.2.2.2.2, .inl (cA, o2.2.2.2.2.2.2.2.2.2.2.2.2.2.1.1, .inl o2.2.2.2.2.2.2.2.2.2.2.2.2.2.1.2))]] H locs → lv_has ls 8 [(0, .ref a0.1), (1, .int p1), (2, .int z53_0), (3, .int j168.1), (4, .int j168.2), (5, .int z24_3), (6, .int x125), (7, .int z53_3)] → W p l e rX11_revisit s m args below meth c H locs 0 0 Q (F0 m 107 ls []) := by
                  intro H locs ls hw hl
                  have hsp := hkj168
                  refine lv_iinc (v := (z53_0 + 1)) (lv' := [(2, .int (z53_0 + 1)), (0, .ref a0.1), (1, .int p1), (3, .int j168.1), (4, .int j168.2), (5, .int z24_3), (6, .int x125), (7, .int z53_3)]) hx hb dX11_revisit_107 hl (k := 2) rfl rfl (by decide) rfl (fun ls hl => ?_)
                  refine lv_iinc (v := (z53_3 + 1)) (lv' := [(7, .int (z53_3 + 1)), (2, .int (z53_0 + 1)), (0, .ref a0.1), (1, .int p1), (3, .int j168.1), (4, .int j168.2), (5, .int z24_3), (6, .int x125)]) hx hb dX11_revisit_110 hl (k := 7) rfl rfl (by decide) rfl (fun ls hl => ?_)
                  refine lv_goto (tgt := 53) hx hb dX11_revisit_113 (by decide) ?_
                  exact ih53 (z53_0 + 1) j168.1 j168.2 (z53_3 + 1) _ hsp _ _ _ hw (lv_sub hl [2, 3, 1, 4, 5, 6, 7, 0] rfl) kx53_116
                have hsp := hsj168
                refine lv_if_eq (tgt := 107) hx hb dX11_revisit_79 (by decide) (fun c169 => ?_) (fun c169 => ?_)
                · have hsp := ift c169 hsp
                  have hsp := Option.some.inj hsp
                  subst hsp
                  exact Jj168 _ _ _ hw (lv_sub hl [0, 1, 2, 3, 4, 5, 6, 7] rfl)
                · have hsp := iff_ c169 hsp
                  refine lv_iload_n hx hb dX11_revisit_82 rfl (lv_at hl 3 rfl) ?_
                  refine lv_iconst (v := -1) hx hb dX11_revisit_83 (by decide) ?_
                  obtain ⟨j172, hsj172, hkj172⟩ := bnd_of hsp
                  have Jj172 : ∀ (H : Heap) (locs : List Loc) (ls : Array Slot), ww A s.heap D [[(a0.1, .inr (11, [.ref a0.2.1, .ref a0.2.2.1, .int o2.2.2.2.1, .int o2.2.2.2.2.1, .ref a0.2.2.2.1, .int o2.2.2.2.2.2.2.1, .int o2.2.2.2.2.2.2.2.1, .ref a0.2.2.2.2.1, .int o2.2.2.2.2.2.2.2.2.2.1, .int o2.2.2.2.2.2.2.2.2.2.2.1, .int o2.2.2.2.2.2.2.2.2.2.2.2.1, .int o2.2.2.2.2.2.2.2.2.2.2.2.2.1, .ref a0.2.2.2.2.2, .int o2.2.2.2.2.2.2.2.2.2.2.2.2.2.2]))], [(a0.2.1, .inl (cA, o2.2.1.1, .inl o2.2.1.2))], [(a0.2.2.1, .inl (cA, o2.2.2.1.1, .inl o2.2.2.1.2))], [(a0.2.2.2.1, .inl (cA, o2.2.2.2.2.2.1.1, .inl o2.2.2.2.2.2.1.2))], [(a0.2.2.2.2.1, .inl (cA, o2.2.2.2.2.2.2.2.2.1.1, .inl o2.2.2.2.2.2.2.2.2.1.2))], [(a0.2.2.2.2.2, .inl (cA, o2.2.2.2.2.2.2.2.2.2.2.2.2.2.1.1, .inl o2.2.2.2.2.2.2.2.2.2.2.2.2.2.1.2))]] H locs → lv_has ls 8 [(0, .ref a0.1), (1, .int p1), (2, .int z53_0), (3, .int z53_1), (4, .int z53_2), (5, .int z24_3), (6, .int x125), (7, .int z53_3)] → W p l e rX11_revisit s m args below meth c H locs 0 0 Q (F0 m 103 ls [.int j172]) := by
                    intro H locs ls hw hl
                    have hsp := hkj172
                    refine lv_istore (lv' := [(4, .int j172), (0, .ref a0.1), (1, .int p1), (2, .int z53_0), (3, .int z53_1), (5, .int z24_3), (6, .int x125), (7, .int z53_3)]) hx hb dX11_revisit_103 hl (by decide) rfl (fun ls hl => ?_)
                    refine lv_iload_n hx hb dX11_revisit_105 rfl (lv_at hl 3 rfl) ?_
                    refine lv_istore_n (lv' := [(3, .int z53_0), (4, .int j172), (0, .ref a0.1), (1, .int p1), (2, .int z53_0), (5, .int z24_3), (6, .int x125), (7, .int z53_3)]) hx hb dX11_revisit_106 rfl hl (by decide) rfl (fun ls hl => ?_)
                    have hsp := Option.some.inj hsp
                    subst hsp
                    exact Jj168 _ _ _ hw (lv_sub hl [2, 3, 4, 0, 1, 5, 6, 7] rfl)
                  have hsp := hsj172
                  refine lv_icmp_eq (tgt := 101) hx hb dX11_revisit_84 (by decide) (fun c173 => ?_) (fun c173 => ?_)
                  · have hsp := ift c173 hsp
                    refine lv_iload hx hb dX11_revisit_101 (lv_at hl 4 rfl) ?_
                    have hsp := Option.some.inj hsp
                    subst hsp
                    exact Jj172 _ _ _ hw (lv_sub hl [0, 1, 2, 3, 4, 5, 6, 7] rfl)
                  · have hsp := iff_ c173 hsp
                    refine lv_iload_n hx hb dX11_revisit_87 rfl (lv_at hl 2 rfl) ?_
                    refine lv_iload_n hx hb dX11_revisit_88 rfl (lv_at hl 3 rfl) ?_
                    refine lv_isub hx hb dX11_revisit_89 ?_
                    refine lv_iload hx hb dX11_revisit_90 (lv_at hl 4 rfl) ?_
                    refine lv_icmp_le (tgt := 101) hx hb dX11_revisit_92 (by decide) (fun c174 => ?_) (fun c174 => ?_)
                    · have hsp := ift c174 hsp
                      refine lv_iload hx hb dX11_revisit_101 (lv_at hl 4 rfl) ?_
                      have hsp := Option.some.inj hsp
                      subst hsp
                      exact Jj172 _ _ _ hw (lv_sub hl [0, 1, 2, 3, 4, 5, 6, 7] rfl)
                    · have hsp := iff_ c174 hsp
                      refine lv_iload_n hx hb dX11_revisit_95 rfl (lv_at hl 2 rfl) ?_
                      refine lv_iload_n hx hb dX11_revisit_96 rfl (lv_at hl 3 rfl) ?_
                      refine lv_isub hx hb dX11_revisit_97 ?_
                      refine lv_goto (tgt := 103) hx hb dX11_revisit_98 (by decide) ?_
                      have hsp := Option.some.inj hsp
                      subst hsp
                      exact Jj172 _ _ _ hw (lv_sub hl [0, 1, 2, 3, 4, 5, 6, 7] rfl)
          obtain ⟨o158, hso158, hsp⟩ := bnd_of hsp
          refine L53 N z24_0 z24_1 z24_2 (0 : Int32) _ hso158 _ _ _ hw (lv_sub hl [2, 3, 4, 5, 6, 7, 1, 0] rfl) (fun y116 hy116 H locs ls hw hl => ?_)
          cases hy116
          refine lv_iinc (v := (z24_3 + 1)) (lv' := [(5, .int (z24_3 + 1)), (0, .ref a0.1), (1, .int p1), (2, .int o158.1), (3, .int o158.2.1), (4, .int o158.2.2.1), (6, .int x125), (7, .int o158.2.2.2)]) hx hb dX11_revisit_116 hl (k := 5) rfl rfl (by decide) rfl (fun ls hl => ?_)
          refine lv_goto (tgt := 24) hx hb dX11_revisit_119 (by decide) ?_
          exact ih24 o158.1 o158.2.1 o158.2.2.1 (z24_3 + 1) _ hsp _ _ _ hw (lv_sub hl [1, 2, 3, 4, 5, 0] rfl) kx24_122
    obtain ⟨o120, hso120, hsp⟩ := bnd_of hsp
    refine L24 N (0 : Int32) (-1 : Int32) (-1 : Int32) (0 : Int32) _ hso120 _ _ _ hw (lv_sub hl [4, 5, 3, 2, 1, 0] rfl) (fun y122 hy122 H locs ls hw hl => ?_)
    cases hy122
    refine lv_iload hx hb dX11_revisit_122 (lv_at hl 4 rfl) ?_
    have hsp := Option.some.inj hsp
    subst hsp
    have hw : ww A s.heap D [w11 cA a0 o2.2] H locs := hw
    subst hQ
    exact k_iret hx hb hr hlk hw dX11_revisit_124
  · have hsp := ift c3 hsp
    refine lv_iconst (v := 0) hx hb dX11_revisit_12 (by decide) ?_
    have hsp := Option.some.inj hsp
    subst hsp
    have hw : ww A s.heap D [w11 cA a0 o2.2] H locs := hw
    subst hQ
    exact k_iret hx hb hr hlk hw dX11_revisit_13
noncomputable def qX11_levelNow_17 (v0 : V11) (p1 : Int32) : Nat → Int32 → Int32 → Option (Int32 × Int32)
  | 0, _, _ => none
  | n17 + 1, z17_0, z17_1 => (grd (vp_in (5 : Int32) v0.1.1) (if (v0.1.2 (5 : Int32).toNatClampNeg) ≤ z17_1 then (some (z17_0, z17_1)) else (grd (vp_in ((10 : Int32) + ((6 : Int32) * z17_1)) v0.1.1) (((if (v0.1.2 ((10 : Int32) + ((6 : Int32) * z17_1)).toNatClampNeg) = (1 : Int32) then (some (1 : Int32)) else (some (0 : Int32))) : Option (Int32)).bind (fun j188 => (((if j188 = 0 then (grd (vp_in (((10 : Int32) + ((6 : Int32) * z17_1)) + (3 : Int32)) v0.1.1) (some (v0.1.2 (((10 : Int32) + ((6 : Int32) * z17_1)) + (3 : Int32)).toNatClampNeg))) else (grd (vp_in (((10 : Int32) + ((6 : Int32) * z17_1)) + (5 : Int32)) v0.1.1) (some (v0.1.2 (((10 : Int32) + ((6 : Int32) * z17_1)) + (5 : Int32)).toNatClampNeg)))) : Option (Int32)).bind (fun j192 => (((if ((v0.1.2 (0 : Int32).toNatClampNeg) - j192) < 0 then (some z17_0) else (((if j188 = 0 then (grd (vp_in (((10 : Int32) + ((6 : Int32) * z17_1)) + (1 : Int32)) v0.1.1) (if (v0.1.2 (((10 : Int32) + ((6 : Int32) * z17_1)) + (1 : Int32)).toNatClampNeg) = p1 then (grd (vp_in (((10 : Int32) + ((6 : Int32) * z17_1)) + (5 : Int32)) v0.1.1) (grd (¬ (v0.1.2 (((10 : Int32) + ((6 : Int32) * z17_1)) + (5 : Int32)).toNatClampNeg) = 0) (grd (vp_in (((10 : Int32) + ((6 : Int32) * z17_1)) + (4 : Int32)) v0.1.1) (if (v0.1.2 (((10 : Int32) + ((6 : Int32) * z17_1)) + (4 : Int32)).toNatClampNeg) ≤ (((v0.1.2 (0 : Int32).toNatClampNeg) - j192) - ((v0.1.2 (0 : Int32).toNatClampNeg) - j192) / (v0.1.2 (((10 : Int32) + ((6 : Int32) * z17_1)) + (5 : Int32)).toNatClampNeg) * (v0.1.2 (((10 : Int32) + ((6 : Int32) * z17_1)) + (5 : Int32)).toNatClampNeg)) then (some (0 : Int32)) else (some (1 : Int32)))))) else (some (0 : Int32)))) else (grd (vp_in (((10 : Int32) + ((6 : Int32) * z17_1)) + (1 : Int32)) v0.1.1) (grd (vp_in (((10 : Int32) + ((6 : Int32) * z17_1)) + (2 : Int32)) v0.1.1) (grd (vp_in (((10 : Int32) + ((6 : Int32) * z17_1)) + (3 : Int32)) v0.1.1) (grd (¬ (v0.1.2 (((10 : Int32) + ((6 : Int32) * z17_1)) + (3 : Int32)).toNatClampNeg) = 0) (if (((v0.1.2 (((10 : Int32) + ((6 : Int32) * z17_1)) + (1 : Int32)).toNatClampNeg) + ((v0.1.2 (((10 : Int32) + ((6 : Int32) * z17_1)) + (2 : Int32)).toNatClampNeg) * (((v0.1.2 (0 : Int32).toNatClampNeg) - j192) / (v0.1.2 (((10 : Int32) + ((6 : Int32) * z17_1)) + (3 : Int32)).toNatClampNeg)))) - ((v0.1.2 (((10 : Int32) + ((6 : Int32) * z17_1)) + (1 : Int32)).toNatClampNeg) + ((v0.1.2 (((10 : Int32) + ((6 : Int32) * z17_1)) + (2 : Int32)).toNatClampNeg) * (((v0.1.2 (0 : Int32).toNatClampNeg) - j192) / (v0.1.2 (((10 : Int32) + ((6 : Int32) * z17_1)) + (3 : Int32)).toNatClampNeg)))) / (32 : Int32) * (32 : Int32)) = p1 then (some (1 : Int32)) else (some (0 : Int32)))))))) : Option (Int32)).bind (fun j245 => (((if j188 = 0 then (grd (vp_in (((10 : Int32) + ((6 : Int32) * z17_1)) + (2 : Int32)) v0.1.1) (some (v0.1.2 (((10 : Int32) + ((6 : Int32) * z17_1)) + (2 : Int32)).toNatClampNeg))) else (grd (vp_in (((10 : Int32) + ((6 : Int32) * z17_1)) + (4 : Int32)) v0.1.1) (some (v0.1.2 (((10 : Int32) + ((6 : Int32) * z17_1)) + (4 : Int32)).toNatClampNeg)))) : Option (Int32)).bind (fun j249 => (((if j245 = 0 then (some z17_0) else (if j249 ≤ z17_0 then (some z17_0) else (some j249))) : Option (Int32)).bind (fun j252 => (some j252)))))))) : Option (Int32)).bind (fun j231 => (qX11_levelNow_17 v0 p1 n17 j231 (z17_1 + 1)))))))))))
noncomputable def sX11_levelNow (N : Nat) (v0 : V11) (p1 : Int32) : Option (Int32) := (grd (vp_in (1 : Int32) v0.1.1) (grd (vp_in (0 : Int32) v0.1.1) ((qX11_levelNow_17 v0 p1 N (v0.1.2 (1 : Int32).toNatClampNeg) (0 : Int32)).bind (fun o183 => (some o183.1)))))
abbrev rX11_levelNow : Room := { frames := 0, cells := 0, slots := 0, locals := 0 }
set_option maxHeartbeats 4000000 in
set_option maxRecDepth 100000 in
theorem mX11_levelNow (l : Launch) (D : va_G) (cA cR : ClassId) (N : Nat) (a0 : A11) (v0 : V11) (p1 : Int32) (o : Int32) (hsp : sX11_levelNow N v0 p1 = some o) : MI l yX11_levelNow wsX11_levelNow rX11_levelNow D cA cR [.ref a0.1, .int p1] [w11 cA a0 v0] (some (.int o)) [w11 cA a0 v0] 0 0 := by
  have hsp : (grd (vp_in (1 : Int32) v0.1.1) (grd (vp_in (0 : Int32) v0.1.1) ((qX11_levelNow_17 v0 p1 N (v0.1.2 (1 : Int32).toNatClampNeg) (0 : Int32)).bind (fun o183 => (some o183.1))))) = some o := hsp
  refine MI.ofW (cc := cX11_levelNow) (maxL := 10) (ret := (some .int)) (by decide) rfl (Nat.le_of_ble_eq_true rfl) ?_
  intro p e s m args below meth c A ls Q H locs hx hb hr hlk hml hown hnm hts hz hA hQ hw hl
  have hl : lv_has ls 10 [(0, .ref a0.1), (1, .int p1)] := hl
  have hw : ww A s.heap D [[(a0.1, .inr (11, [.ref a0.2.1, .ref a0.2.2.1, .int v0.2.2.1, .int v0.2.2.2.1, .ref a0.2.2.2.1, .int v0.2.2.2.2.2.1, .int v0.2.2.2.2.2.2.1, .ref a0.2.2.2.2.1, .int v0.2.2.2.2.2.2.2.2.1, .int v0.2.2.2.2.2.2.2.2.2.1, .int v0.2.2.2.2.2.2.2.2.2.2.1, .int v0.2.2.2.2.2.2.2.2.2.2.2.1, .ref a0.2.2.2.2.2, .int v0.2.2.2.2.2.2.2.2.2.2.2.2.2]))], [(a0.2.1, .inl (cA, v0.1.1, .inl v0.1.2))], [(a0.2.2.1, .inl (cA, v0.2.1.1, .inl v0.2.1.2))], [(a0.2.2.2.1, .inl (cA, v0.2.2.2.2.1.1, .inl v0.2.2.2.2.1.2))], [(a0.2.2.2.2.1, .inl (cA, v0.2.2.2.2.2.2.2.1.1, .inl v0.2.2.2.2.2.2.2.1.2))], [(a0.2.2.2.2.2, .inl (cA, v0.2.2.2.2.2.2.2.2.2.2.2.2.1.1, .inl v0.2.2.2.2.2.2.2.2.2.2.2.2.1.2))]] H locs := hw
  refine lv_aload_n hx hb dX11_levelNow_0 rfl (lv_at hl 0 rfl) ?_
  refine k_get (ci := 11) (v := .ref a0.2.1) (C := RX11) (T := TX11) (N := 14) hx hb hts hown hz hw (by decide +kernel) 0 rfl rfl 0 (by decide) (hts (.fieldLink RX11 7 "OccupancyMonitorModel" "all" "[I") (by decide +kernel)) (fun _ h9 => h9) rfl dX11_levelNow_1 ?_
  refine lv_iconst (v := 1) hx hb dX11_levelNow_4 (by decide) ?_
  obtain ⟨g1, hsp⟩ := grd_of hsp
  refine k_iald hx hb hz hw 1 rfl g1 dX11_levelNow_5 ?_
  refine lv_istore_n (lv' := [(2, .int (v0.1.2 (1 : Int32).toNatClampNeg)), (0, .ref a0.1), (1, .int p1)]) hx hb dX11_levelNow_6 rfl hl (by decide) rfl (fun ls hl => ?_)
  refine lv_aload_n hx hb dX11_levelNow_7 rfl (lv_at hl 1 rfl) ?_
  refine k_get (ci := 11) (v := .ref a0.2.1) (C := RX11) (T := TX11) (N := 14) hx hb hts hown hz hw (by decide +kernel) 0 rfl rfl 0 (by decide) (hts (.fieldLink RX11 7 "OccupancyMonitorModel" "all" "[I") (by decide +kernel)) (fun _ h9 => h9) rfl dX11_levelNow_8 ?_
  refine lv_iconst (v := 0) hx hb dX11_levelNow_11 (by decide) ?_
  obtain ⟨g2, hsp⟩ := grd_of hsp
  refine k_iald hx hb hz hw 1 rfl g2 dX11_levelNow_12 ?_
  refine lv_istore_n (lv' := [(3, .int (v0.1.2 (0 : Int32).toNatClampNeg)), (2, .int (v0.1.2 (1 : Int32).toNatClampNeg)), (0, .ref a0.1), (1, .int p1)]) hx hb dX11_levelNow_13 rfl hl (by decide) rfl (fun ls hl => ?_)
  refine lv_iconst (v := 0) hx hb dX11_levelNow_14 (by decide) ?_
  refine lv_istore (lv' := [(4, .int (0 : Int32)), (3, .int (v0.1.2 (0 : Int32).toNatClampNeg)), (2, .int (v0.1.2 (1 : Int32).toNatClampNeg)), (0, .ref a0.1), (1, .int p1)]) hx hb dX11_levelNow_15 hl (by decide) rfl (fun ls hl => ?_)
  have L17 : ∀ (n17 : Nat) (z17_0 : Int32) (z17_1 : Int32) (o183 : Int32 × Int32), qX11_levelNow_17 v0 p1 n17 z17_0 z17_1 = some o183 → ∀ (H : Heap) (locs : List Loc) (ls : Array Slot), ww A s.heap D [[(a0.1, .inr (11, [.ref a0.2.1, .ref a0.2.2.1, .int v0.2.2.1, .int v0.2.2.2.1, .ref a0.2.2.2.1, .int v0.2.2.2.2.2.1, .int v0.2.2.2.2.2.2.1, .ref a0.2.2.2.2.1, .int v0.2.2.2.2.2.2.2.2.1, .int v0.2.2.2.2.2.2.2.2.2.1, .int v0.2.2.2.2.2.2.2.2.2.2.1, .int v0.2.2.2.2.2.2.2.2.2.2.2.1, .ref a0.2.2.2.2.2, .int v0.2.2.2.2.2.2.2.2.2.2.2.2.2]))], [(a0.2.1, .inl (cA, v0.1.1, .inl v0.1.2))], [(a0.2.2.1, .inl (cA, v0.2.1.1, .inl v0.2.1.2))], [(a0.2.2.2.1, .inl (cA, v0.2.2.2.2.1.1, .inl v0.2.2.2.2.1.2))], [(a0.2.2.2.2.1, .inl (cA, v0.2.2.2.2.2.2.2.1.1, .inl v0.2.2.2.2.2.2.2.1.2))], [(a0.2.2.2.2.2, .inl (cA, v0.2.2.2.2.2.2.2.2.2.2.2.2.1.1, .inl v0.2.2.2.2.2.2.2.2.2.2.2.2.1.2))]] H locs → lv_has ls 10 [(0, .ref a0.1), (1, .int p1), (2, .int z17_0), (3, .int (v0.1.2 (0 : Int32).toNatClampNeg)), (4, .int z17_1)] → (∀ (y239 : Int32 × Int32), o183 = y239 → ∀ (H : Heap) (locs : List Loc) (ls : Array Slot), ww A s.heap D [[(a0.1, .inr (11, [.ref a0.2.1, .ref a0.2.2.1, .int v0.2.2.1, .int v0.2.2.2.1, .ref a0.2.2.2.1, .int v0.2.2.2.2.2.1, .int v0.2.2.2.2.2.2.1, .ref a0.2.2.2.2.1, .int v0.2.2.2.2.2.2.2.2.1, .int v0.2.2.2.2.2.2.2.2.2.1, .int v0.2.2.2.2.2.2.2.2.2.2.1, .int v0.2.2.2.2.2.2.2.2.2.2.2.1, .ref a0.2.2.2.2.2, .int v0.2.2.2.2.2.2.2.2.2.2.2.2.2]))], [(a0.2.1, .inl (cA, v0.1.1, .inl v0.1.2))], [(a0.2.2.1, .inl (cA, v0.2.1.1, .inl v0.2.1.2))], [(a0.2.2.2.1, .inl (cA, v0.2.2.2.2.1.1, .inl v0.2.2.2.2.1.2))], [(a0.2.2.2.2.1, .inl (cA, v0.2.2.2.2.2.2.2.1.1, .inl v0.2.2.2.2.2.2.2.1.2))], [(a0.2.2.2.2.2, .inl (cA, v0.2.2.2.2.2.2.2.2.2.2.2.2.1.1, .inl v0.2.2.2.2.2.2.2.2.2.2.2.2.1.2))]] H locs → lv_has ls 10 [(0, .ref a0.1), (1, .int p1), (2, .int y239.1), (3, .int (v0.1.2 (0 : Int32).toNatClampNeg)), (4, .int y239.2)] → W p l e rX11_levelNow s m args below meth c H locs 0 0 Q (F0 m 239 ls [])) → W p l e rX11_levelNow s m args below meth c H locs 0 0 Q (F0 m 17 ls []) := by
    intro n17
    induction n17 with
    | zero => intro z17_0 z17_1 o183 hsp; cases hsp
    | succ n17 ih17 =>
      intro z17_0 z17_1 o183 hsp H locs ls hw hl kx17_239
      have hsp : (grd (vp_in (5 : Int32) v0.1.1) (if (v0.1.2 (5 : Int32).toNatClampNeg) ≤ z17_1 then (some (z17_0, z17_1)) else (grd (vp_in ((10 : Int32) + ((6 : Int32) * z17_1)) v0.1.1) (((if (v0.1.2 ((10 : Int32) + ((6 : Int32) * z17_1)).toNatClampNeg) = (1 : Int32) then (some (1 : Int32)) else (some (0 : Int32))) : Option (Int32)).bind (fun j188 => (((if j188 = 0 then (grd (vp_in (((10 : Int32) + ((6 : Int32) * z17_1)) + (3 : Int32)) v0.1.1) (some (v0.1.2 (((10 : Int32) + ((6 : Int32) * z17_1)) + (3 : Int32)).toNatClampNeg))) else (grd (vp_in (((10 : Int32) + ((6 : Int32) * z17_1)) + (5 : Int32)) v0.1.1) (some (v0.1.2 (((10 : Int32) + ((6 : Int32) * z17_1)) + (5 : Int32)).toNatClampNeg)))) : Option (Int32)).bind (fun j192 => (((if ((v0.1.2 (0 : Int32).toNatClampNeg) - j192) < 0 then (some z17_0) else (((if j188 = 0 then (grd (vp_in (((10 : Int32) + ((6 : Int32) * z17_1)) + (1 : Int32)) v0.1.1) (if (v0.1.2 (((10 : Int32) + ((6 : Int32) * z17_1)) + (1 : Int32)).toNatClampNeg) = p1 then (grd (vp_in (((10 : Int32) + ((6 : Int32) * z17_1)) + (5 : Int32)) v0.1.1) (grd (¬ (v0.1.2 (((10 : Int32) + ((6 : Int32) * z17_1)) + (5 : Int32)).toNatClampNeg) = 0) (grd (vp_in (((10 : Int32) + ((6 : Int32) * z17_1)) + (4 : Int32)) v0.1.1) (if (v0.1.2 (((10 : Int32) + ((6 : Int32) * z17_1)) + (4 : Int32)).toNatClampNeg) ≤ (((v0.1.2 (0 : Int32).toNatClampNeg) - j192) - ((v0.1.2 (0 : Int32).toNatClampNeg) - j192) / (v0.1.2 (((10 : Int32) + ((6 : Int32) * z17_1)) + (5 : Int32)).toNatClampNeg) * (v0.1.2 (((10 : Int32) + ((6 : Int32) * z17_1)) + (5 : Int32)).toNatClampNeg)) then (some (0 : Int32)) else (some (1 : Int32)))))) else (some (0 : Int32)))) else (grd (vp_in (((10 : Int32) + ((6 : Int32) * z17_1)) + (1 : Int32)) v0.1.1) (grd (vp_in (((10 : Int32) + ((6 : Int32) * z17_1)) + (2 : Int32)) v0.1.1) (grd (vp_in (((10 : Int32) + ((6 : Int32) * z17_1)) + (3 : Int32)) v0.1.1) (grd (¬ (v0.1.2 (((10 : Int32) + ((6 : Int32) * z17_1)) + (3 : Int32)).toNatClampNeg) = 0) (if (((v0.1.2 (((10 : Int32) + ((6 : Int32) * z17_1)) + (1 : Int32)).toNatClampNeg) + ((v0.1.2 (((10 : Int32) + ((6 : Int32) * z17_1)) + (2 : Int32)).toNatClampNeg) * (((v0.1.2 (0 : Int32).toNatClampNeg) - j192) / (v0.1.2 (((10 : Int32) + ((6 : Int32) * z17_1)) + (3 : Int32)).toNatClampNeg)))) - ((v0.1.2 (((10 : Int32) + ((6 : Int32) * z17_1)) + (1 : Int32)).toNatClampNeg) + ((v0.1.2 (((10 : Int32) + ((6 : Int32) * z17_1)) + (2 : Int32)).toNatClampNeg) * (((v0.1.2 (0 : Int32).toNatClampNeg) - j192) / (v0.1.2 (((10 : Int32) + ((6 : Int32) * z17_1)) + (3 : Int32)).toNatClampNeg)))) / (32 : Int32) * (32 : Int32)) = p1 then (some (1 : Int32)) else (some (0 : Int32)))))))) : Option (Int32)).bind (fun j245 => (((if j188 = 0 then (grd (vp_in (((10 : Int32) + ((6 : Int32) * z17_1)) + (2 : Int32)) v0.1.1) (some (v0.1.2 (((10 : Int32) + ((6 : Int32) * z17_1)) + (2 : Int32)).toNatClampNeg))) else (grd (vp_in (((10 : Int32) + ((6 : Int32) * z17_1)) + (4 : Int32)) v0.1.1) (some (v0.1.2 (((10 : Int32) + ((6 : Int32) * z17_1)) + (4 : Int32)).toNatClampNeg)))) : Option (Int32)).bind (fun j249 => (((if j245 = 0 then (some z17_0) else (if j249 ≤ z17_0 then (some z17_0) else (some j249))) : Option (Int32)).bind (fun j252 => (some j252)))))))) : Option (Int32)).bind (fun j231 => (qX11_levelNow_17 v0 p1 n17 j231 (z17_1 + 1))))))))))) = some o183 := hsp
      refine lv_iload hx hb dX11_levelNow_17 (lv_at hl 4 rfl) ?_
      refine lv_aload_n hx hb dX11_levelNow_19 rfl (lv_at hl 0 rfl) ?_
      refine k_get (ci := 11) (v := .ref a0.2.1) (C := RX11) (T := TX11) (N := 14) hx hb hts hown hz hw (by decide +kernel) 0 rfl rfl 0 (by decide) (hts (.fieldLink RX11 7 "OccupancyMonitorModel" "all" "[I") (by decide +kernel)) (fun _ h9 => h9) rfl dX11_levelNow_20 ?_
      refine lv_iconst (v := 5) hx hb dX11_levelNow_23 (by decide) ?_
      obtain ⟨g184, hsp⟩ := grd_of hsp
      refine k_iald hx hb hz hw 1 rfl g184 dX11_levelNow_24 ?_
      refine lv_icmp_ge (tgt := 239) hx hb dX11_levelNow_25 (by decide) (fun c185 => ?_) (fun c185 => ?_)
      · have hsp := ift c185 hsp
        have hsp := Option.some.inj hsp
        subst hsp
        exact kx17_239 _ rfl _ _ _ hw (lv_sub hl [0, 1, 2, 3, 4] rfl)
      · have hsp := iff_ c185 hsp
        refine lv_bipush (v := 10) hx hb dX11_levelNow_28 (by decide) ?_
        refine lv_bipush (v := 6) hx hb dX11_levelNow_30 (by decide) ?_
        refine lv_iload hx hb dX11_levelNow_32 (lv_at hl 4 rfl) ?_
        refine lv_imul hx hb dX11_levelNow_34 ?_
        refine lv_iadd hx hb dX11_levelNow_35 ?_
        refine lv_istore (lv' := [(5, .int ((10 : Int32) + ((6 : Int32) * z17_1))), (0, .ref a0.1), (1, .int p1), (2, .int z17_0), (3, .int (v0.1.2 (0 : Int32).toNatClampNeg)), (4, .int z17_1)]) hx hb dX11_levelNow_36 hl (by decide) rfl (fun ls hl => ?_)
        refine lv_aload_n hx hb dX11_levelNow_38 rfl (lv_at hl 1 rfl) ?_
        refine k_get (ci := 11) (v := .ref a0.2.1) (C := RX11) (T := TX11) (N := 14) hx hb hts hown hz hw (by decide +kernel) 0 rfl rfl 0 (by decide) (hts (.fieldLink RX11 7 "OccupancyMonitorModel" "all" "[I") (by decide +kernel)) (fun _ h9 => h9) rfl dX11_levelNow_39 ?_
        refine lv_iload hx hb dX11_levelNow_42 (lv_at hl 0 rfl) ?_
        obtain ⟨g186, hsp⟩ := grd_of hsp
        refine k_iald hx hb hz hw 1 rfl g186 dX11_levelNow_44 ?_
        refine lv_iconst (v := 1) hx hb dX11_levelNow_45 (by decide) ?_
        obtain ⟨j188, hsj188, hkj188⟩ := bnd_of hsp
        have Jj188 : ∀ (H : Heap) (locs : List Loc) (ls : Array Slot), ww A s.heap D [[(a0.1, .inr (11, [.ref a0.2.1, .ref a0.2.2.1, .int v0.2.2.1, .int v0.2.2.2.1, .ref a0.2.2.2.1, .int v0.2.2.2.2.2.1, .int v0.2.2.2.2.2.2.1, .ref a0.2.2.2.2.1, .int v0.2.2.2.2.2.2.2.2.1, .int v0.2.2.2.2.2.2.2.2.2.1, .int v0.2.2.2.2.2.2.2.2.2.2.1, .int v0.2.2.2.2.2.2.2.2.2.2.2.1, .ref a0.2.2.2.2.2, .int v0.2.2.2.2.2.2.2.2.2.2.2.2.2]))], [(a0.2.1, .inl (cA, v0.1.1, .inl v0.1.2))], [(a0.2.2.1, .inl (cA, v0.2.1.1, .inl v0.2.1.2))], [(a0.2.2.2.1, .inl (cA, v0.2.2.2.2.1.1, .inl v0.2.2.2.2.1.2))], [(a0.2.2.2.2.1, .inl (cA, v0.2.2.2.2.2.2.2.1.1, .inl v0.2.2.2.2.2.2.2.1.2))], [(a0.2.2.2.2.2, .inl (cA, v0.2.2.2.2.2.2.2.2.2.2.2.2.1.1, .inl v0.2.2.2.2.2.2.2.2.2.2.2.2.1.2))]] H locs → lv_has ls 10 [(0, .ref a0.1), (1, .int p1), (2, .int z17_0), (3, .int (v0.1.2 (0 : Int32).toNatClampNeg)), (4, .int z17_1), (5, .int ((10 : Int32) + ((6 : Int32) * z17_1)))] → W p l e rX11_levelNow s m args below meth c H locs 0 0 Q (F0 m 54 ls [.int j188]) := by
          intro H locs ls hw hl
          have hsp := hkj188
          refine lv_istore (lv' := [(6, .int j188), (0, .ref a0.1), (1, .int p1), (2, .int z17_0), (3, .int (v0.1.2 (0 : Int32).toNatClampNeg)), (4, .int z17_1), (5, .int ((10 : Int32) + ((6 : Int32) * z17_1)))]) hx hb dX11_levelNow_54 hl (by decide) rfl (fun ls hl => ?_)
          refine lv_iload_n hx hb dX11_levelNow_56 rfl (lv_at hl 4 rfl) ?_
          refine lv_iload hx hb dX11_levelNow_57 (lv_at hl 0 rfl) ?_
          obtain ⟨j192, hsj192, hkj192⟩ := bnd_of hsp
          have Jj192 : ∀ (H : Heap) (locs : List Loc) (ls : Array Slot), ww A s.heap D [[(a0.1, .inr (11, [.ref a0.2.1, .ref a0.2.2.1, .int v0.2.2.1, .int v0.2.2.2.1, .ref a0.2.2.2.1, .int v0.2.2.2.2.2.1, .int v0.2.2.2.2.2.2.1, .ref a0.2.2.2.2.1, .int v0.2.2.2.2.2.2.2.2.1, .int v0.2.2.2.2.2.2.2.2.2.1, .int v0.2.2.2.2.2.2.2.2.2.2.1, .int v0.2.2.2.2.2.2.2.2.2.2.2.1, .ref a0.2.2.2.2.2, .int v0.2.2.2.2.2.2.2.2.2.2.2.2.2]))], [(a0.2.1, .inl (cA, v0.1.1, .inl v0.1.2))], [(a0.2.2.1, .inl (cA, v0.2.1.1, .inl v0.2.1.2))], [(a0.2.2.2.1, .inl (cA, v0.2.2.2.2.1.1, .inl v0.2.2.2.2.1.2))], [(a0.2.2.2.2.1, .inl (cA, v0.2.2.2.2.2.2.2.1.1, .inl v0.2.2.2.2.2.2.2.1.2))], [(a0.2.2.2.2.2, .inl (cA, v0.2.2.2.2.2.2.2.2.2.2.2.2.1.1, .inl v0.2.2.2.2.2.2.2.2.2.2.2.2.1.2))]] H locs → lv_has ls 10 [(0, .ref a0.1), (1, .int p1), (2, .int z17_0), (3, .int (v0.1.2 (0 : Int32).toNatClampNeg)), (4, .int z17_1), (5, .int ((10 : Int32) + ((6 : Int32) * z17_1))), (6, .int j188)] → W p l e rX11_levelNow s m args below meth c H locs 0 0 Q (F0 m 83 ls [.int j192, .int (v0.1.2 (0 : Int32).toNatClampNeg)]) := by
            intro H locs ls hw hl
            have hsp := hkj192
            refine lv_isub hx hb dX11_levelNow_83 ?_
            refine lv_istore (lv' := [(7, .int ((v0.1.2 (0 : Int32).toNatClampNeg) - j192)), (0, .ref a0.1), (1, .int p1), (2, .int z17_0), (3, .int (v0.1.2 (0 : Int32).toNatClampNeg)), (4, .int z17_1), (5, .int ((10 : Int32) + ((6 : Int32) * z17_1))), (6, .int j188)]) hx hb dX11_levelNow_84 hl (by decide) rfl (fun ls hl => ?_)
            refine lv_iload hx hb dX11_levelNow_86 (lv_at hl 0 rfl) ?_
            obtain ⟨j231, hsj231, hkj231⟩ := bnd_of hsp
            have Jj231 : ∀ (H : Heap) (locs : List Loc) (ls : Array Slot), ww A s.heap D [[(a0.1, .inr (11, [.ref a0.2.1, .ref a0.2.2.1, .int v0.2.2.1, .int v0.2.2.2.1, .ref a0.2.2.2.1, .int v0.2.2.2.2.2.1, .int v0.2.2.2.2.2.2.1, .ref a0.2.2.2.2.1, .int v0.2.2.2.2.2.2.2.2.1, .int v0.2.2.2.2.2.2.2.2.2.1, .int v0.2.2.2.2.2.2.2.2.2.2.1, .int v0.2.2.2.2.2.2.2.2.2.2.2.1, .ref a0.2.2.2.2.2, .int v0.2.2.2.2.2.2.2.2.2.2.2.2.2]))], [(a0.2.1, .inl (cA, v0.1.1, .inl v0.1.2))], [(a0.2.2.1, .inl (cA, v0.2.1.1, .inl v0.2.1.2))], [(a0.2.2.2.1, .inl (cA, v0.2.2.2.2.1.1, .inl v0.2.2.2.2.1.2))], [(a0.2.2.2.2.1, .inl (cA, v0.2.2.2.2.2.2.2.1.1, .inl v0.2.2.2.2.2.2.2.1.2))], [(a0.2.2.2.2.2, .inl (cA, v0.2.2.2.2.2.2.2.2.2.2.2.2.1.1, .inl v0.2.2.2.2.2.2.2.2.2.2.2.2.1.2))]] H locs → lv_has ls 10 [(0, .ref a0.1), (1, .int p1), (2, .int j231), (3, .int (v0.1.2 (0 : Int32).toNatClampNeg)), (4, .int z17_1), (5, .int ((10 : Int32) + ((6 : Int32) * z17_1))), (6, .int j188), (7, .int ((v0.1.2 (0 : Int32).toNatClampNeg) - j192))] → W p l e rX11_levelNow s m args below meth c H locs 0 0 Q (F0 m 233 ls []) := by
              intro H locs ls hw hl
              have hsp := hkj231
              refine lv_iinc (v := (z17_1 + 1)) (lv' := [(4, .int (z17_1 + 1)), (0, .ref a0.1), (1, .int p1), (2, .int j231), (3, .int (v0.1.2 (0 : Int32).toNatClampNeg)), (5, .int ((10 : Int32) + ((6 : Int32) * z17_1))), (6, .int j188), (7, .int ((v0.1.2 (0 : Int32).toNatClampNeg) - j192))]) hx hb dX11_levelNow_233 hl (k := 4) rfl rfl (by decide) rfl (fun ls hl => ?_)
              refine lv_goto (tgt := 17) hx hb dX11_levelNow_236 (by decide) ?_
              exact ih17 j231 (z17_1 + 1) _ hsp _ _ _ hw (lv_sub hl [1, 2, 3, 4, 0] rfl) kx17_239
            have hsp := hsj231
            refine lv_if_lt (tgt := 233) hx hb dX11_levelNow_88 (by decide) (fun c232 => ?_) (fun c232 => ?_)
            · have hsp := ift c232 hsp
              have hsp := Option.some.inj hsp
              subst hsp
              exact Jj231 _ _ _ hw (lv_sub hl [1, 2, 3, 4, 5, 6, 7, 0] rfl)
            · have hsp := iff_ c232 hsp
              refine lv_iload hx hb dX11_levelNow_91 (lv_at hl 7 rfl) ?_
              obtain ⟨j245, hsj245, hkj245⟩ := bnd_of hsp
              have Jj245 : ∀ (H : Heap) (locs : List Loc) (ls : Array Slot), ww A s.heap D [[(a0.1, .inr (11, [.ref a0.2.1, .ref a0.2.2.1, .int v0.2.2.1, .int v0.2.2.2.1, .ref a0.2.2.2.1, .int v0.2.2.2.2.2.1, .int v0.2.2.2.2.2.2.1, .ref a0.2.2.2.2.1, .int v0.2.2.2.2.2.2.2.2.1, .int v0.2.2.2.2.2.2.2.2.2.1, .int v0.2.2.2.2.2.2.2.2.2.2.1, .int v0.2.2.2.2.2.2.2.2.2.2.2.1, .ref a0.2.2.2.2.2, .int v0.2.2.2.2.2.2.2.2.2.2.2.2.2]))], [(a0.2.1, .inl (cA, v0.1.1, .inl v0.1.2))], [(a0.2.2.1, .inl (cA, v0.2.1.1, .inl v0.2.1.2))], [(a0.2.2.2.1, .inl (cA, v0.2.2.2.2.1.1, .inl v0.2.2.2.2.1.2))], [(a0.2.2.2.2.1, .inl (cA, v0.2.2.2.2.2.2.2.1.1, .inl v0.2.2.2.2.2.2.2.1.2))], [(a0.2.2.2.2.2, .inl (cA, v0.2.2.2.2.2.2.2.2.2.2.2.2.1.1, .inl v0.2.2.2.2.2.2.2.2.2.2.2.2.1.2))]] H locs → lv_has ls 10 [(0, .ref a0.1), (1, .int p1), (2, .int z17_0), (3, .int (v0.1.2 (0 : Int32).toNatClampNeg)), (4, .int z17_1), (5, .int ((10 : Int32) + ((6 : Int32) * z17_1))), (6, .int j188), (7, .int ((v0.1.2 (0 : Int32).toNatClampNeg) - j192))] → W p l e rX11_levelNow s m args below meth c H locs 0 0 Q (F0 m 185 ls [.int j245]) := by
                intro H locs ls hw hl
                have hsp := hkj245
                refine lv_istore (lv' := [(8, .int j245), (0, .ref a0.1), (1, .int p1), (2, .int z17_0), (3, .int (v0.1.2 (0 : Int32).toNatClampNeg)), (4, .int z17_1), (5, .int ((10 : Int32) + ((6 : Int32) * z17_1))), (6, .int j188), (7, .int ((v0.1.2 (0 : Int32).toNatClampNeg) - j192))]) hx hb dX11_levelNow_185 hl (by decide) rfl (fun ls hl => ?_)
                refine lv_iload hx hb dX11_levelNow_187 (lv_at hl 7 rfl) ?_
                obtain ⟨j249, hsj249, hkj249⟩ := bnd_of hsp
                have Jj249 : ∀ (H : Heap) (locs : List Loc) (ls : Array Slot), ww A s.heap D [[(a0.1, .inr (11, [.ref a0.2.1, .ref a0.2.2.1, .int v0.2.2.1, .int v0.2.2.2.1, .ref a0.2.2.2.1, .int v0.2.2.2.2.2.1, .int v0.2.2.2.2.2.2.1, .ref a0.2.2.2.2.1, .int v0.2.2.2.2.2.2.2.2.1, .int v0.2.2.2.2.2.2.2.2.2.1, .int v0.2.2.2.2.2.2.2.2.2.2.1, .int v0.2.2.2.2.2.2.2.2.2.2.2.1, .ref a0.2.2.2.2.2, .int v0.2.2.2.2.2.2.2.2.2.2.2.2.2]))], [(a0.2.1, .inl (cA, v0.1.1, .inl v0.1.2))], [(a0.2.2.1, .inl (cA, v0.2.1.1, .inl v0.2.1.2))], [(a0.2.2.2.1, .inl (cA, v0.2.2.2.2.1.1, .inl v0.2.2.2.2.1.2))], [(a0.2.2.2.2.1, .inl (cA, v0.2.2.2.2.2.2.2.1.1, .inl v0.2.2.2.2.2.2.2.1.2))], [(a0.2.2.2.2.2, .inl (cA, v0.2.2.2.2.2.2.2.2.2.2.2.2.1.1, .inl v0.2.2.2.2.2.2.2.2.2.2.2.2.1.2))]] H locs → lv_has ls 10 [(0, .ref a0.1), (1, .int p1), (2, .int z17_0), (3, .int (v0.1.2 (0 : Int32).toNatClampNeg)), (4, .int z17_1), (5, .int ((10 : Int32) + ((6 : Int32) * z17_1))), (6, .int j188), (7, .int ((v0.1.2 (0 : Int32).toNatClampNeg) - j192)), (8, .int j245)] → W p l e rX11_levelNow s m args below meth c H locs 0 0 Q (F0 m 213 ls [.int j249]) := by
                  intro H locs ls hw hl
                  have hsp := hkj249
                  refine lv_istore (lv' := [(9, .int j249), (0, .ref a0.1), (1, .int p1), (2, .int z17_0), (3, .int (v0.1.2 (0 : Int32).toNatClampNeg)), (4, .int z17_1), (5, .int ((10 : Int32) + ((6 : Int32) * z17_1))), (6, .int j188), (7, .int ((v0.1.2 (0 : Int32).toNatClampNeg) - j192)), (8, .int j245)]) hx hb dX11_levelNow_213 hl (by decide) rfl (fun ls hl => ?_)
                  refine lv_iload hx hb dX11_levelNow_215 (lv_at hl 9 rfl) ?_
                  obtain ⟨j252, hsj252, hkj252⟩ := bnd_of hsp
                  have Jj252 : ∀ (H : Heap) (locs : List Loc) (ls : Array Slot), ww A s.heap D [[(a0.1, .inr (11, [.ref a0.2.1, .ref a0.2.2.1, .int v0.2.2.1, .int v0.2.2.2.1, .ref a0.2.2.2.1, .int v0.2.2.2.2.2.1, .int v0.2.2.2.2.2.2.1, .ref a0.2.2.2.2.1, .int v0.2.2.2.2.2.2.2.2.1, .int v0.2.2.2.2.2.2.2.2.2.1, .int v0.2.2.2.2.2.2.2.2.2.2.1, .int v0.2.2.2.2.2.2.2.2.2.2.2.1, .ref a0.2.2.2.2.2, .int v0.2.2.2.2.2.2.2.2.2.2.2.2.2]))], [(a0.2.1, .inl (cA, v0.1.1, .inl v0.1.2))], [(a0.2.2.1, .inl (cA, v0.2.1.1, .inl v0.2.1.2))], [(a0.2.2.2.1, .inl (cA, v0.2.2.2.2.1.1, .inl v0.2.2.2.2.1.2))], [(a0.2.2.2.2.1, .inl (cA, v0.2.2.2.2.2.2.2.1.1, .inl v0.2.2.2.2.2.2.2.1.2))], [(a0.2.2.2.2.2, .inl (cA, v0.2.2.2.2.2.2.2.2.2.2.2.2.1.1, .inl v0.2.2.2.2.2.2.2.2.2.2.2.2.1.2))]] H locs → lv_has ls 10 [(0, .ref a0.1), (1, .int p1), (2, .int z17_0), (3, .int (v0.1.2 (0 : Int32).toNatClampNeg)), (4, .int z17_1), (5, .int ((10 : Int32) + ((6 : Int32) * z17_1))), (6, .int j188), (7, .int ((v0.1.2 (0 : Int32).toNatClampNeg) - j192)), (8, .int j245), (9, .int j249)] → W p l e rX11_levelNow s m args below meth c H locs 0 0 Q (F0 m 232 ls [.int j252]) := by
                    intro H locs ls hw hl
                    have hsp := hkj252
                    refine lv_istore_n (lv' := [(2, .int j252), (0, .ref a0.1), (1, .int p1), (3, .int (v0.1.2 (0 : Int32).toNatClampNeg)), (4, .int z17_1), (5, .int ((10 : Int32) + ((6 : Int32) * z17_1))), (6, .int j188), (7, .int ((v0.1.2 (0 : Int32).toNatClampNeg) - j192)), (8, .int j245), (9, .int j249)]) hx hb dX11_levelNow_232 rfl hl (by decide) rfl (fun ls hl => ?_)
                    have hsp := Option.some.inj hsp
                    subst hsp
                    exact Jj231 _ _ _ hw (lv_sub hl [1, 2, 0, 3, 4, 5, 6, 7] rfl)
                  have hsp := hsj252
                  refine lv_if_eq (tgt := 231) hx hb dX11_levelNow_217 (by decide) (fun c253 => ?_) (fun c253 => ?_)
                  · have hsp := ift c253 hsp
                    refine lv_iload_n hx hb dX11_levelNow_231 rfl (lv_at hl 3 rfl) ?_
                    have hsp := Option.some.inj hsp
                    subst hsp
                    exact Jj252 _ _ _ hw (lv_sub hl [1, 2, 3, 4, 5, 6, 7, 8, 9, 0] rfl)
                  · have hsp := iff_ c253 hsp
                    refine lv_iload hx hb dX11_levelNow_220 (lv_at hl 0 rfl) ?_
                    refine lv_iload_n hx hb dX11_levelNow_222 rfl (lv_at hl 3 rfl) ?_
                    refine lv_icmp_le (tgt := 231) hx hb dX11_levelNow_223 (by decide) (fun c254 => ?_) (fun c254 => ?_)
                    · have hsp := ift c254 hsp
                      refine lv_iload_n hx hb dX11_levelNow_231 rfl (lv_at hl 3 rfl) ?_
                      have hsp := Option.some.inj hsp
                      subst hsp
                      exact Jj252 _ _ _ hw (lv_sub hl [1, 2, 3, 4, 5, 6, 7, 8, 9, 0] rfl)
                    · have hsp := iff_ c254 hsp
                      refine lv_iload hx hb dX11_levelNow_226 (lv_at hl 0 rfl) ?_
                      refine lv_goto (tgt := 232) hx hb dX11_levelNow_228 (by decide) ?_
                      have hsp := Option.some.inj hsp
                      subst hsp
                      exact Jj252 _ _ _ hw (lv_sub hl [1, 2, 3, 4, 5, 6, 7, 8, 9, 0] rfl)
                have hsp := hsj249
                refine lv_if_eq (tgt := 204) hx hb dX11_levelNow_189 (by decide) (fun c255 => ?_) (fun c255 => ?_)
                · have hsp := ift c255 hsp
                  refine lv_aload_n hx hb dX11_levelNow_204 rfl (lv_at hl 1 rfl) ?_
                  refine k_get (ci := 11) (v := .ref a0.2.1) (C := RX11) (T := TX11) (N := 14) hx hb hts hown hz hw (by decide +kernel) 0 rfl rfl 0 (by decide) (hts (.fieldLink RX11 7 "OccupancyMonitorModel" "all" "[I") (by decide +kernel)) (fun _ h9 => h9) rfl dX11_levelNow_205 ?_
                  refine lv_iload hx hb dX11_levelNow_208 (lv_at hl 6 rfl) ?_
                  refine lv_iconst (v := 2) hx hb dX11_levelNow_210 (by decide) ?_
                  refine lv_iadd hx hb dX11_levelNow_211 ?_
                  obtain ⟨g256, hsp⟩ := grd_of hsp
                  refine k_iald hx hb hz hw 1 rfl g256 dX11_levelNow_212 ?_
                  have hsp := Option.some.inj hsp
                  subst hsp
                  exact Jj249 _ _ _ hw (lv_sub hl [1, 2, 3, 4, 5, 6, 7, 8, 0] rfl)
                · have hsp := iff_ c255 hsp
                  refine lv_aload_n hx hb dX11_levelNow_192 rfl (lv_at hl 1 rfl) ?_
                  refine k_get (ci := 11) (v := .ref a0.2.1) (C := RX11) (T := TX11) (N := 14) hx hb hts hown hz hw (by decide +kernel) 0 rfl rfl 0 (by decide) (hts (.fieldLink RX11 7 "OccupancyMonitorModel" "all" "[I") (by decide +kernel)) (fun _ h9 => h9) rfl dX11_levelNow_193 ?_
                  refine lv_iload hx hb dX11_levelNow_196 (lv_at hl 6 rfl) ?_
                  refine lv_iconst (v := 4) hx hb dX11_levelNow_198 (by decide) ?_
                  refine lv_iadd hx hb dX11_levelNow_199 ?_
                  obtain ⟨g257, hsp⟩ := grd_of hsp
                  refine k_iald hx hb hz hw 1 rfl g257 dX11_levelNow_200 ?_
                  refine lv_goto (tgt := 213) hx hb dX11_levelNow_201 (by decide) ?_
                  have hsp := Option.some.inj hsp
                  subst hsp
                  exact Jj249 _ _ _ hw (lv_sub hl [1, 2, 3, 4, 5, 6, 7, 8, 0] rfl)
              have hsp := hsj245
              refine lv_if_eq (tgt := 143) hx hb dX11_levelNow_93 (by decide) (fun c258 => ?_) (fun c258 => ?_)
              · have hsp := ift c258 hsp
                refine lv_aload_n hx hb dX11_levelNow_143 rfl (lv_at hl 1 rfl) ?_
                refine k_get (ci := 11) (v := .ref a0.2.1) (C := RX11) (T := TX11) (N := 14) hx hb hts hown hz hw (by decide +kernel) 0 rfl rfl 0 (by decide) (hts (.fieldLink RX11 7 "OccupancyMonitorModel" "all" "[I") (by decide +kernel)) (fun _ h9 => h9) rfl dX11_levelNow_144 ?_
                refine lv_iload hx hb dX11_levelNow_147 (lv_at hl 6 rfl) ?_
                refine lv_iconst (v := 1) hx hb dX11_levelNow_149 (by decide) ?_
                refine lv_iadd hx hb dX11_levelNow_150 ?_
                obtain ⟨g259, hsp⟩ := grd_of hsp
                refine k_iald hx hb hz hw 1 rfl g259 dX11_levelNow_151 ?_
                refine lv_iload_n hx hb dX11_levelNow_152 rfl (lv_at hl 2 rfl) ?_
                refine lv_icmp_ne (tgt := 184) hx hb dX11_levelNow_153 (by decide) (fun c260 => ?_) (fun c260 => ?_)
                · have hsp := iff_ c260 hsp
                  refine lv_iconst (v := 0) hx hb dX11_levelNow_184 (by decide) ?_
                  have hsp := Option.some.inj hsp
                  subst hsp
                  exact Jj245 _ _ _ hw (lv_sub hl [1, 2, 3, 4, 5, 6, 7, 0] rfl)
                · have hsp := ift c260 hsp
                  refine lv_iload hx hb dX11_levelNow_156 (lv_at hl 0 rfl) ?_
                  refine lv_aload_n hx hb dX11_levelNow_158 rfl (lv_at hl 1 rfl) ?_
                  refine k_get (ci := 11) (v := .ref a0.2.1) (C := RX11) (T := TX11) (N := 14) hx hb hts hown hz hw (by decide +kernel) 0 rfl rfl 0 (by decide) (hts (.fieldLink RX11 7 "OccupancyMonitorModel" "all" "[I") (by decide +kernel)) (fun _ h9 => h9) rfl dX11_levelNow_159 ?_
                  refine lv_iload hx hb dX11_levelNow_162 (lv_at hl 6 rfl) ?_
                  refine lv_iconst (v := 5) hx hb dX11_levelNow_164 (by decide) ?_
                  refine lv_iadd hx hb dX11_levelNow_165 ?_
                  obtain ⟨g261, hsp⟩ := grd_of hsp
                  refine k_iald hx hb hz hw 1 rfl g261 dX11_levelNow_166 ?_
                  obtain ⟨g262, hsp⟩ := grd_of hsp
                  refine lv_irem hx hb dX11_levelNow_167 g262 ?_
                  refine lv_aload_n hx hb dX11_levelNow_168 rfl (lv_at hl 1 rfl) ?_
                  refine k_get (ci := 11) (v := .ref a0.2.1) (C := RX11) (T := TX11) (N := 14) hx hb hts hown hz hw (by decide +kernel) 0 rfl rfl 0 (by decide) (hts (.fieldLink RX11 7 "OccupancyMonitorModel" "all" "[I") (by decide +kernel)) (fun _ h9 => h9) rfl dX11_levelNow_169 ?_
                  refine lv_iload hx hb dX11_levelNow_172 (lv_at hl 6 rfl) ?_
                  refine lv_iconst (v := 4) hx hb dX11_levelNow_174 (by decide) ?_
                  refine lv_iadd hx hb dX11_levelNow_175 ?_
                  obtain ⟨g263, hsp⟩ := grd_of hsp
                  refine k_iald hx hb hz hw 1 rfl g263 dX11_levelNow_176 ?_
                  refine lv_icmp_ge (tgt := 184) hx hb dX11_levelNow_177 (by decide) (fun c264 => ?_) (fun c264 => ?_)
                  · have hsp := ift c264 hsp
                    refine lv_iconst (v := 0) hx hb dX11_levelNow_184 (by decide) ?_
                    have hsp := Option.some.inj hsp
                    subst hsp
                    exact Jj245 _ _ _ hw (lv_sub hl [1, 2, 3, 4, 5, 6, 7, 0] rfl)
                  · have hsp := iff_ c264 hsp
                    refine lv_iconst (v := 1) hx hb dX11_levelNow_180 (by decide) ?_
                    refine lv_goto (tgt := 185) hx hb dX11_levelNow_181 (by decide) ?_
                    have hsp := Option.some.inj hsp
                    subst hsp
                    exact Jj245 _ _ _ hw (lv_sub hl [1, 2, 3, 4, 5, 6, 7, 0] rfl)
              · have hsp := iff_ c258 hsp
                refine lv_aload_n hx hb dX11_levelNow_96 rfl (lv_at hl 1 rfl) ?_
                refine k_get (ci := 11) (v := .ref a0.2.1) (C := RX11) (T := TX11) (N := 14) hx hb hts hown hz hw (by decide +kernel) 0 rfl rfl 0 (by decide) (hts (.fieldLink RX11 7 "OccupancyMonitorModel" "all" "[I") (by decide +kernel)) (fun _ h9 => h9) rfl dX11_levelNow_97 ?_
                refine lv_iload hx hb dX11_levelNow_100 (lv_at hl 6 rfl) ?_
                refine lv_iconst (v := 1) hx hb dX11_levelNow_102 (by decide) ?_
                refine lv_iadd hx hb dX11_levelNow_103 ?_
                obtain ⟨g265, hsp⟩ := grd_of hsp
                refine k_iald hx hb hz hw 1 rfl g265 dX11_levelNow_104 ?_
                refine lv_aload_n hx hb dX11_levelNow_105 rfl (lv_at hl 1 rfl) ?_
                refine k_get (ci := 11) (v := .ref a0.2.1) (C := RX11) (T := TX11) (N := 14) hx hb hts hown hz hw (by decide +kernel) 0 rfl rfl 0 (by decide) (hts (.fieldLink RX11 7 "OccupancyMonitorModel" "all" "[I") (by decide +kernel)) (fun _ h9 => h9) rfl dX11_levelNow_106 ?_
                refine lv_iload hx hb dX11_levelNow_109 (lv_at hl 6 rfl) ?_
                refine lv_iconst (v := 2) hx hb dX11_levelNow_111 (by decide) ?_
                refine lv_iadd hx hb dX11_levelNow_112 ?_
                obtain ⟨g266, hsp⟩ := grd_of hsp
                refine k_iald hx hb hz hw 1 rfl g266 dX11_levelNow_113 ?_
                refine lv_iload hx hb dX11_levelNow_114 (lv_at hl 0 rfl) ?_
                refine lv_aload_n hx hb dX11_levelNow_116 rfl (lv_at hl 1 rfl) ?_
                refine k_get (ci := 11) (v := .ref a0.2.1) (C := RX11) (T := TX11) (N := 14) hx hb hts hown hz hw (by decide +kernel) 0 rfl rfl 0 (by decide) (hts (.fieldLink RX11 7 "OccupancyMonitorModel" "all" "[I") (by decide +kernel)) (fun _ h9 => h9) rfl dX11_levelNow_117 ?_
                refine lv_iload hx hb dX11_levelNow_120 (lv_at hl 6 rfl) ?_
                refine lv_iconst (v := 3) hx hb dX11_levelNow_122 (by decide) ?_
                refine lv_iadd hx hb dX11_levelNow_123 ?_
                obtain ⟨g267, hsp⟩ := grd_of hsp
                refine k_iald hx hb hz hw 1 rfl g267 dX11_levelNow_124 ?_
                obtain ⟨g268, hsp⟩ := grd_of hsp
                refine lv_idiv hx hb dX11_levelNow_125 g268 ?_
                refine lv_imul hx hb dX11_levelNow_126 ?_
                refine lv_iadd hx hb dX11_levelNow_127 ?_
                refine lv_bipush (v := 32) hx hb dX11_levelNow_128 (by decide) ?_
                refine lv_irem hx hb dX11_levelNow_130 (by decide) ?_
                refine lv_iload_n hx hb dX11_levelNow_131 rfl (lv_at hl 2 rfl) ?_
                refine lv_icmp_ne (tgt := 139) hx hb dX11_levelNow_132 (by decide) (fun c269 => ?_) (fun c269 => ?_)
                · have hsp := iff_ c269 hsp
                  refine lv_iconst (v := 0) hx hb dX11_levelNow_139 (by decide) ?_
                  refine lv_goto (tgt := 185) hx hb dX11_levelNow_140 (by decide) ?_
                  have hsp := Option.some.inj hsp
                  subst hsp
                  exact Jj245 _ _ _ hw (lv_sub hl [1, 2, 3, 4, 5, 6, 7, 0] rfl)
                · have hsp := ift c269 hsp
                  refine lv_iconst (v := 1) hx hb dX11_levelNow_135 (by decide) ?_
                  refine lv_goto (tgt := 185) hx hb dX11_levelNow_136 (by decide) ?_
                  have hsp := Option.some.inj hsp
                  subst hsp
                  exact Jj245 _ _ _ hw (lv_sub hl [1, 2, 3, 4, 5, 6, 7, 0] rfl)
          have hsp := hsj192
          refine lv_if_eq (tgt := 74) hx hb dX11_levelNow_59 (by decide) (fun c270 => ?_) (fun c270 => ?_)
          · have hsp := ift c270 hsp
            refine lv_aload_n hx hb dX11_levelNow_74 rfl (lv_at hl 1 rfl) ?_
            refine k_get (ci := 11) (v := .ref a0.2.1) (C := RX11) (T := TX11) (N := 14) hx hb hts hown hz hw (by decide +kernel) 0 rfl rfl 0 (by decide) (hts (.fieldLink RX11 7 "OccupancyMonitorModel" "all" "[I") (by decide +kernel)) (fun _ h9 => h9) rfl dX11_levelNow_75 ?_
            refine lv_iload hx hb dX11_levelNow_78 (lv_at hl 6 rfl) ?_
            refine lv_iconst (v := 3) hx hb dX11_levelNow_80 (by decide) ?_
            refine lv_iadd hx hb dX11_levelNow_81 ?_
            obtain ⟨g271, hsp⟩ := grd_of hsp
            refine k_iald hx hb hz hw 1 rfl g271 dX11_levelNow_82 ?_
            have hsp := Option.some.inj hsp
            subst hsp
            exact Jj192 _ _ _ hw (lv_sub hl [1, 2, 3, 4, 5, 6, 0] rfl)
          · have hsp := iff_ c270 hsp
            refine lv_aload_n hx hb dX11_levelNow_62 rfl (lv_at hl 1 rfl) ?_
            refine k_get (ci := 11) (v := .ref a0.2.1) (C := RX11) (T := TX11) (N := 14) hx hb hts hown hz hw (by decide +kernel) 0 rfl rfl 0 (by decide) (hts (.fieldLink RX11 7 "OccupancyMonitorModel" "all" "[I") (by decide +kernel)) (fun _ h9 => h9) rfl dX11_levelNow_63 ?_
            refine lv_iload hx hb dX11_levelNow_66 (lv_at hl 6 rfl) ?_
            refine lv_iconst (v := 5) hx hb dX11_levelNow_68 (by decide) ?_
            refine lv_iadd hx hb dX11_levelNow_69 ?_
            obtain ⟨g272, hsp⟩ := grd_of hsp
            refine k_iald hx hb hz hw 1 rfl g272 dX11_levelNow_70 ?_
            refine lv_goto (tgt := 83) hx hb dX11_levelNow_71 (by decide) ?_
            have hsp := Option.some.inj hsp
            subst hsp
            exact Jj192 _ _ _ hw (lv_sub hl [1, 2, 3, 4, 5, 6, 0] rfl)
        have hsp := hsj188
        refine lv_icmp_ne (tgt := 53) hx hb dX11_levelNow_46 (by decide) (fun c273 => ?_) (fun c273 => ?_)
        · have hsp := iff_ c273 hsp
          refine lv_iconst (v := 0) hx hb dX11_levelNow_53 (by decide) ?_
          have hsp := Option.some.inj hsp
          subst hsp
          exact Jj188 _ _ _ hw (lv_sub hl [1, 2, 3, 4, 5, 0] rfl)
        · have hsp := ift c273 hsp
          refine lv_iconst (v := 1) hx hb dX11_levelNow_49 (by decide) ?_
          refine lv_goto (tgt := 54) hx hb dX11_levelNow_50 (by decide) ?_
          have hsp := Option.some.inj hsp
          subst hsp
          exact Jj188 _ _ _ hw (lv_sub hl [1, 2, 3, 4, 5, 0] rfl)
  obtain ⟨o183, hso183, hsp⟩ := bnd_of hsp
  refine L17 N (v0.1.2 (1 : Int32).toNatClampNeg) (0 : Int32) _ hso183 _ _ _ hw (lv_sub hl [3, 4, 2, 1, 0] rfl) (fun y239 hy239 H locs ls hw hl => ?_)
  cases hy239
  refine lv_iload_n hx hb dX11_levelNow_239 rfl (lv_at hl 2 rfl) ?_
  have hsp := Option.some.inj hsp
  subst hsp
  have hw : ww A s.heap D [w11 cA a0 v0] H locs := hw
  subst hQ
  exact k_iret hx hb hr hlk hw dX11_levelNow_240
