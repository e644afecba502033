noncomputable def qX11_run_25 (N : Nat) (p1 : Int32) : Nat → Int32 → Nat → (Nat → Int32) → Nat → (Nat → Int32) → Int32 → Int32 → Nat → (Nat → Int32) → Int32 → Int32 → Nat → (Nat → Int32) → Int32 → Int32 → Int32 → Int32 → Nat → (Nat → Int32) → Int32 → Option (Int32 × Nat × (Nat → Int32) × Nat × (Nat → Int32) × Int32 × Int32 × Nat × (Nat → Int32) × Int32 × Int32 × Nat × (Nat → Int32) × Int32 × Int32 × Int32 × Int32 × Nat × (Nat → Int32) × Int32)
  | 0, _, _, _, _, _, _, _, _, _, _, _, _, _, _, _, _, _, _, _, _ => none
  | n25 + 1, z25_0, z25_1, z25_2, z25_3, z25_4, z25_5, z25_6, z25_7, z25_8, z25_9, z25_10, z25_11, z25_12, z25_13, z25_14, z25_15, z25_16, z25_17, z25_18, z25_19 => (if p1 ≤ z25_0 then (some (z25_0, z25_1, z25_2, z25_3, z25_4, z25_5, z25_6, z25_7, z25_8, z25_9, z25_10, z25_11, z25_12, z25_13, z25_14, z25_15, z25_16, z25_17, z25_18, z25_19)) else ((sX11_ticks N ((z25_1, z25_2), (z25_3, z25_4), z25_5, z25_6, (z25_7, z25_8), z25_9, z25_10, (z25_11, z25_12), z25_13, z25_14, z25_15, z25_16, (z25_17, z25_18), z25_19)).bind (fun o11 => (qX11_run_25 N p1 n25 (z25_0 + 1) o11.1.1 o11.1.2 o11.2.1.1 o11.2.1.2 o11.2.2.1 o11.2.2.2.1 o11.2.2.2.2.1.1 o11.2.2.2.2.1.2 o11.2.2.2.2.2.1 o11.2.2.2.2.2.2.1 o11.2.2.2.2.2.2.2.1.1 o11.2.2.2.2.2.2.2.1.2 o11.2.2.2.2.2.2.2.2.1 o11.2.2.2.2.2.2.2.2.2.1 o11.2.2.2.2.2.2.2.2.2.2.1 o11.2.2.2.2.2.2.2.2.2.2.2.1 o11.2.2.2.2.2.2.2.2.2.2.2.2.1.1 o11.2.2.2.2.2.2.2.2.2.2.2.2.1.2 o11.2.2.2.2.2.2.2.2.2.2.2.2.2))))
noncomputable def sX11_run (N : Nat) (v0 : V11) (p1 : Int32) : Option (Int32 × V11) := ((sX11_in p1.toInt64 (0 : Int64) (2000 : Int64)).bind (fun o1 => ((sX11_goes v0 o1 (1 : Int32)).bind (fun o2 => (if o2.1 = 0 then (some ((0 : Int32), o2.2)) else ((sX11_save N o2.2).bind (fun o4 => ((qX11_run_25 N p1 N (0 : Int32) o4.1.1 o4.1.2 o4.2.1.1 o4.2.1.2 o4.2.2.1 o4.2.2.2.1 o4.2.2.2.2.1.1 o4.2.2.2.2.1.2 o4.2.2.2.2.2.1 o4.2.2.2.2.2.2.1 o4.2.2.2.2.2.2.2.1.1 o4.2.2.2.2.2.2.2.1.2 o4.2.2.2.2.2.2.2.2.1 o4.2.2.2.2.2.2.2.2.2.1 o4.2.2.2.2.2.2.2.2.2.2.1 o4.2.2.2.2.2.2.2.2.2.2.2.1 o4.2.2.2.2.2.2.2.2.2.2.2.2.1.1 o4.2.2.2.2.2.2.2.2.2.2.2.2.1.2 o4.2.2.2.2.2.2.2.2.2.2.2.2.2).bind (fun o9 => (grd (vp_in (0 : Int32) o9.2.1) (some ((o9.2.2.1 (0 : Int32).toNatClampNeg), ((o9.2.1, o9.2.2.1), (o9.2.2.2.1, o9.2.2.2.2.1), o9.2.2.2.2.2.1, o9.2.2.2.2.2.2.1, (o9.2.2.2.2.2.2.2.1, o9.2.2.2.2.2.2.2.2.1), o9.2.2.2.2.2.2.2.2.2.1, o9.2.2.2.2.2.2.2.2.2.2.1, (o9.2.2.2.2.2.2.2.2.2.2.2.1, o9.2.2.2.2.2.2.2.2.2.2.2.2.1), o9.2.2.2.2.2.2.2.2.2.2.2.2.2.1, o9.2.2.2.2.2.2.2.2.2.2.2.2.2.2.1, o9.2.2.2.2.2.2.2.2.2.2.2.2.2.2.2.1, o9.2.2.2.2.2.2.2.2.2.2.2.2.2.2.2.2.1, (o9.2.2.2.2.2.2.2.2.2.2.2.2.2.2.2.2.2.1, o9.2.2.2.2.2.2.2.2.2.2.2.2.2.2.2.2.2.2.1), o9.2.2.2.2.2.2.2.2.2.2.2.2.2.2.2.2.2.2.2)))))))))))))
abbrev rX11_run : Room := { frames := 5, cells := 0, slots := 0, locals := 112 }
set_option maxHeartbeats 4000000 in
set_option maxRecDepth 100000 in
theorem mX11_run (l : Launch) (D : va_G) (cA cR : ClassId) (N : Nat) (a0 : A11) (v0 : V11) (p1 : Int32) (o : Int32 × V11) (hsp : sX11_run N v0 p1 = some o) : MI l yX11_run wsX11_run rX11_run D cA cR [.ref a0.1, .int p1] [w11 cA a0 v0] (some (.int o.1)) [w11 cA a0 o.2] 0 0 := by
  have hsp : ((sX11_in p1.toInt64 (0 : Int64) (2000 : Int64)).bind (fun o1 => ((sX11_goes v0 o1 (1 : Int32)).bind (fun o2 => (if o2.1 = 0 then (some ((0 : Int32), o2.2)) else ((sX11_save N o2.2).bind (fun o4 => ((qX11_run_25 N p1 N (0 : Int32) o4.1.1 o4.1.2 o4.2.1.1 o4.2.1.2 o4.2.2.1 o4.2.2.2.1 o4.2.2.2.2.1.1 o4.2.2.2.2.1.2 o4.2.2.2.2.2.1 o4.2.2.2.2.2.2.1 o4.2.2.2.2.2.2.2.1.1 o4.2.2.2.2.2.2.2.1.2 o4.2.2.2.2.2.2.2.2.1 o4.2.2.2.2.2.2.2.2.2.1 o4.2.2.2.2.2.2.2.2.2.2.1 o4.2.2.2.2.2.2.2.2.2.2.2.1 o4.2.2.2.2.2.2.2.2.2.2.2.2.1.1 o4.2.2.2.2.2.2.2.2.2.2.2.2.1.2 o4.2.2.2.2.2.2.2.2.2.2.2.2.2).bind (fun o9 => (grd (vp_in (0 : Int32) o9.2.1) (some ((o9.2.2.1 (0 : Int32).toNatClampNeg), ((o9.2.1, o9.2.2.1), (o9.2.2.2.1, o9.2.2.2.2.1), o9.2.2.2.2.2.1, o9.2.2.2.2.2.2.1, (o9.2.2.2.2.2.2.2.1, o9.2.2.2.2.2.2.2.2.1), o9.2.2.2.2.2.2.2.2.2.1, o9.2.2.2.2.2.2.2.2.2.2.1, (o9.2.2.2.2.2.2.2.2.2.2.2.1, o9.2.2.2.2.2.2.2.2.2.2.2.2.1), o9.2.2.2.2.2.2.2.2.2.2.2.2.2.1, o9.2.2.2.2.2.2.2.2.2.2.2.2.2.2.1, o9.2.2.2.2.2.2.2.2.2.2.2.2.2.2.2.1, o9.2.2.2.2.2.2.2.2.2.2.2.2.2.2.2.2.1, (o9.2.2.2.2.2.2.2.2.2.2.2.2.2.2.2.2.2.1, o9.2.2.2.2.2.2.2.2.2.2.2.2.2.2.2.2.2.2.1), o9.2.2.2.2.2.2.2.2.2.2.2.2.2.2.2.2.2.2.2))))))))))))) = some o := hsp
  refine MI.ofW (cc := cX11_run) (maxL := 3) (ret := (some .int)) (by decide) rfl (Nat.le_of_ble_eq_true rfl) ?_
  intro p e s m args below meth c A ls Q H locs hx hb hr hlk hml hown hnm hts hz hA hQ hw hl
  have hl : lv_has ls 3 [(0, .ref a0.1), (1, .int p1)] := hl
  have hw : ww A s.heap D [[(a0.1, .inr (11, [.ref a0.2.1, .ref a0.2.2.1, .int v0.2.2.1, .int v0.2.2.2.1, .ref a0.2.2.2.1, .int v0.2.2.2.2.2.1, .int v0.2.2.2.2.2.2.1, .ref a0.2.2.2.2.1, .int v0.2.2.2.2.2.2.2.2.1, .int v0.2.2.2.2.2.2.2.2.2.1, .int v0.2.2.2.2.2.2.2.2.2.2.1, .int v0.2.2.2.2.2.2.2.2.2.2.2.1, .ref a0.2.2.2.2.2, .int v0.2.2.2.2.2.2.2.2.2.2.2.2.2]))], [(a0.2.1, .inl (cA, v0.1.1, .inl v0.1.2))], [(a0.2.2.1, .inl (cA, v0.2.1.1, .inl v0.2.1.2))], [(a0.2.2.2.1, .inl (cA, v0.2.2.2.2.1.1, .inl v0.2.2.2.2.1.2))], [(a0.2.2.2.2.1, .inl (cA, v0.2.2.2.2.2.2.2.1.1, .inl v0.2.2.2.2.2.2.2.1.2))], [(a0.2.2.2.2.2, .inl (cA, v0.2.2.2.2.2.2.2.2.2.2.2.2.1.1, .inl v0.2.2.2.2.2.2.2.2.2.2.2.2.1.2))]] H locs := hw
  refine lv_aload_n hx hb dX11_run_0 rfl (lv_at hl 0 rfl) ?_
  refine lv_iload_n hx hb dX11_run_1 rfl (lv_at hl 1 rfl) ?_
  refine lv_i2l hx hb dX11_run_2 rfl ?_
  refine lv_lconst (v := 0) hx hb dX11_run_3 (by decide) ?_
  refine lv_ldc2 hx hb hown (hts (.constantLong RX11 146 2000) (by decide +kernel)) dX11_run_4 ?_
  obtain ⟨o1, hso1, hsp⟩ := bnd_of hsp
  refine k_callS (nA := 3) (As := [.long p1.toInt64, .long (0 : Int64), .long (2000 : Int64)]) (cs := []) (rs := [[(a0.1, .inr (11, [.ref a0.2.1, .ref a0.2.2.1, .int v0.2.2.1, .int v0.2.2.2.1, .ref a0.2.2.2.1, .int v0.2.2.2.2.2.1, .int v0.2.2.2.2.2.2.1, .ref a0.2.2.2.2.1, .int v0.2.2.2.2.2.2.2.2.1, .int v0.2.2.2.2.2.2.2.2.2.1, .int v0.2.2.2.2.2.2.2.2.2.2.1, .int v0.2.2.2.2.2.2.2.2.2.2.2.1, .ref a0.2.2.2.2.2, .int v0.2.2.2.2.2.2.2.2.2.2.2.2.2]))], [(a0.2.1, .inl (cA, v0.1.1, .inl v0.1.2))], [(a0.2.2.1, .inl (cA, v0.2.1.1, .inl v0.2.1.2))], [(a0.2.2.2.1, .inl (cA, v0.2.2.2.2.1.1, .inl v0.2.2.2.2.1.2))], [(a0.2.2.2.2.1, .inl (cA, v0.2.2.2.2.2.2.2.1.1, .inl v0.2.2.2.2.2.2.2.1.2))], [(a0.2.2.2.2.2, .inl (cA, v0.2.2.2.2.2.2.2.2.2.2.2.2.1.1, .inl v0.2.2.2.2.2.2.2.2.2.2.2.2.1.2))]]) (cs1 := []) (bs1 := [[(a0.1, .inr (11, [.ref a0.2.1, .ref a0.2.2.1, .int v0.2.2.1, .int v0.2.2.2.1, .ref a0.2.2.2.1, .int v0.2.2.2.2.2.1, .int v0.2.2.2.2.2.2.1, .ref a0.2.2.2.2.1, .int v0.2.2.2.2.2.2.2.2.1, .int v0.2.2.2.2.2.2.2.2.2.1, .int v0.2.2.2.2.2.2.2.2.2.2.1, .int v0.2.2.2.2.2.2.2.2.2.2.2.1, .ref a0.2.2.2.2.2, .int v0.2.2.2.2.2.2.2.2.2.2.2.2.2]))], [(a0.2.1, .inl (cA, v0.1.1, .inl v0.1.2))], [(a0.2.2.1, .inl (cA, v0.2.1.1, .inl v0.2.1.2))], [(a0.2.2.2.1, .inl (cA, v0.2.2.2.2.1.1, .inl v0.2.2.2.2.1.2))], [(a0.2.2.2.2.1, .inl (cA, v0.2.2.2.2.2.2.2.1.1, .inl v0.2.2.2.2.2.2.2.1.2))], [(a0.2.2.2.2.2, .inl (cA, v0.2.2.2.2.2.2.2.2.2.2.2.2.1.1, .inl v0.2.2.2.2.2.2.2.2.2.2.2.2.1.2))]]) (rest := [.ref a0.1]) (st1 := [.int o1, .ref a0.1]) ⟨hx, hb, hml, hown, hts⟩ hz hw hA (mX11_in l D cA cR p1.toInt64 (0 : Int64) (2000 : Int64) o1 hso1) gX11_run_X11_in rfl rfl rfl (by decide +kernel) rfl ⟨Nat.le_of_ble_eq_true rfl, Nat.le_of_ble_eq_true rfl⟩ hl.1 rfl (Nat.le_of_ble_eq_true rfl) dX11_run_7 ⟨Nat.le_of_ble_eq_true rfl, Nat.le_of_ble_eq_true rfl⟩ [] [0, 1, 2, 3, 4, 5] [0, 1, 2, 3, 4, 5] rfl rfl rfl rfl rfl rfl (fun H locs hw => ?_)
  refine lv_iconst (v := 1) hx hb dX11_run_10 (by decide) ?_
  have hw : ww A s.heap D [w11 cA a0 v0] H locs := hw
  obtain ⟨o2, hso2, hsp⟩ := bnd_of hsp
  refine k_callV (ci := 11) (C := RX11) (T := TX11) (N := 14) (nA := 2) (As := [.int o1, .int (1 : Int32)]) (cs := [w11 cA a0 v0]) (rs := []) (cs1 := [w11 cA a0 o2.2]) (bs1 := [w11 cA a0 o2.2]) (rest := []) (st1 := [.int o2.1]) ⟨hx, hb, hml, hown, hts⟩ hz hw hA (mX11_goes l D cA cR a0 v0 o1 (1 : Int32) o2 hso2) gX11_run_X11_goes rfl rfl rfl (by decide +kernel) rfl ⟨Nat.le_of_ble_eq_true rfl, Nat.le_of_ble_eq_true rfl⟩ rfl rfl hl.1 rfl (Nat.le_of_ble_eq_true rfl) dX11_run_11 ⟨Nat.le_of_ble_eq_true rfl, Nat.le_of_ble_eq_true rfl⟩ [0] [] [0] rfl rfl rfl rfl rfl rfl (fun H locs hw => ?_)
  have hw : ww A s.heap D [[(a0.1, .inr (11, [.ref a0.2.1, .ref a0.2.2.1, .int o2.2.2.2.1, .int o2.2.2.2.2.1, .ref a0.2.2.2.1, .int o2.2.2.2.2.2.2.1, .int o2.2.2.2.2.2.2.2.1, .ref a0.2.2.2.2.1, .int o2.2.2.2.2.2.2.2.2.2.1, .int o2.2.2.2.2.2.2.2.2.2.2.1, .int o2.2.2.2.2.2.2.2.2.2.2.2.1, .int o2.2.2.2.2.2.2.2.2.2.2.2.2.1, .ref a0.2.2.2.2.2, .int o2.2.2.2.2.2.2.2.2.2.2.2.2.2.2]))], [(a0.2.1, .inl (cA, o2.2.1.1, .inl o2.2.1.2))], [(a0.2.2.1, .inl (cA, o2.2.2.1.1, .inl o2.2.2.1.2))], [(a0.2.2.2.1, .inl (cA, o2.2.2.2.2.2.1.1, .inl o2.2.2.2.2.2.1.2))], [(a0.2.2.2.2.1, .inl (cA, o2.2.2.2.2.2.2.2.2.1.1, .inl o2.2.2.2.2.2.2.2.2.1.2))], [(a0.2.2.2.2.2, .inl (cA, o2.2.2.2.2.2.2.2.2.2.2.2.2.2.1.1, .inl o2.2.2.2.2.2.2.2.2.2.2.2.2.2.1.2))]] H locs := hw
  refine lv_if_ne (tgt := 19) hx hb dX11_run_14 (by decide) (fun c3 => ?_) (fun c3 => ?_)
  · have hsp := iff_ c3 hsp
    refine lv_aload_n hx hb dX11_run_19 rfl (lv_at hl 0 rfl) ?_
    have hw : ww A s.heap D [w11 cA a0 o2.2] H locs := hw
    obtain ⟨o4, hso4, hsp⟩ := bnd_of hsp
    refine k_callV (ci := 11) (C := RX11) (T := TX11) (N := 14) (nA := 0) (As := []) (cs := [w11 cA a0 o2.2]) (rs := []) (cs1 := [w11 cA a0 o4]) (bs1 := [w11 cA a0 o4]) (rest := []) (st1 := []) ⟨hx, hb, hml, hown, hts⟩ hz hw hA (mX11_save l D cA cR N a0 o2.2 o4 hso4) gX11_run_X11_save rfl rfl rfl (by decide +kernel) rfl ⟨Nat.le_of_ble_eq_true rfl, Nat.le_of_ble_eq_true rfl⟩ rfl rfl hl.1 rfl (Nat.le_of_ble_eq_true rfl) dX11_run_20 ⟨Nat.le_of_ble_eq_true rfl, Nat.le_of_ble_eq_true rfl⟩ [0] [] [0] rfl rfl rfl rfl rfl rfl (fun H locs hw => ?_)
    have hw : ww A s.heap D [[(a0.1, .inr (11, [.ref a0.2.1, .ref a0.2.2.1, .int o4.2.2.1, .int o4.2.2.2.1, .ref a0.2.2.2.1, .int o4.2.2.2.2.2.1, .int o4.2.2.2.2.2.2.1, .ref a0.2.2.2.2.1, .int o4.2.2.2.2.2.2.2.2.1, .int o4.2.2.2.2.2.2.2.2.2.1, .int o4.2.2.2.2.2.2.2.2.2.2.1, .int o4.2.2.2.2.2.2.2.2.2.2.2.1, .ref a0.2.2.2.2.2, .int o4.2.2.2.2.2.2.2.2.2.2.2.2.2]))], [(a0.2.1, .inl (cA, o4.1.1, .inl o4.1.2))], [(a0.2.2.1, .inl (cA, o4.2.1.1, .inl o4.2.1.2))], [(a0.2.2.2.1, .inl (cA, o4.2.2.2.2.1.1, .inl o4.2.2.2.2.1.2))], [(a0.2.2.2.2.1, .inl (cA, o4.2.2.2.2.2.2.2.1.1, .inl o4.2.2.2.2.2.2.2.1.2))], [(a0.2.2.2.2.2, .inl (cA, o4.2.2.2.2.2.2.2.2.2.2.2.2.1.1, .inl o4.2.2.2.2.2.2.2.2.2.2.2.2.1.2))]] H locs := hw
    refine lv_iconst (v := 0) hx hb dX11_run_23 (by decide) ?_
    refine lv_istore_n (lv' := [(2, .int (0 : Int32)), (0, .ref a0.1), (1, .int p1)]) hx hb dX11_run_24 rfl hl (by decide) rfl (fun ls hl => ?_)
    have L25 : ∀ (n25 : Nat) (z25_0 : Int32) (z25_1 : Nat) (z25_2 : (Nat → Int32)) (z25_3 : Nat) (z25_4 : (Nat → Int32)) (z25_5 : Int32) (z25_6 : Int32) (z25_7 : Nat) (z25_8 : (Nat → Int32)) (z25_9 : Int32) (z25_10 : Int32) (z25_11 : Nat) (z25_12 : (Nat → Int32)) (z25_13 : Int32) (z25_14 : Int32) (z25_15 : Int32) (z25_16 : Int32) (z25_17 : Nat) (z25_18 : (Nat → Int32)) (z25_19 : Int32) (o9 : Int32 × Nat × (Nat → Int32) × Nat × (Nat → Int32) × Int32 × Int32 × Nat × (Nat → Int32) × Int32 × Int32 × Nat × (Nat → Int32) × Int32 × Int32 × Int32 × Int32 × Nat × (Nat → Int32) × Int32), qX11_run_25 N p1 n25 z25_0 z25_1 z25_2 z25_3 z25_4 z25_5 z25_6 z25_7 z25_8 z25_9 z25_10 z25_11 z25_12 z25_13 z25_14 z25_15 z25_16 z25_17 z25_18 z25_19 = some o9 → ∀ (H : Heap) (locs : List Loc) (ls : Array Slot), ww A s.heap D [[(a0.1, .inr (11, [.ref a0.2.1, .ref a0.2.2.1, .int z25_5, .int z25_6, .ref a0.2.2.2.1, .int z25_9, .int z25_10, .ref a0.2.2.2.2.1, .int z25_13, .int z25_14, .int z25_15, .int z25_16, .ref a0.2.2.2.2.2, .int z25_19]))], [(a0.2.1, .inl (cA, z25_1, .inl z25_2))], [(a0.2.2.1, .inl (cA, z25_3, .inl z25_4))], [(a0.2.2.2.1, .inl (cA, z25_7, .inl z25_8))], [(a0.2.2.2.2.1, .inl (cA, z25_11, .inl z25_12))], [(a0.2.2.2.2.2, .inl (cA, z25_17, .inl z25_18))]] H locs → lv_has ls 3 [(0, .ref a0.1), (1, .int p1), (2, .int z25_0)] → (∀ (y40 : Int32 × Nat × (Nat → Int32) × Nat × (Nat → Int32) × Int32 × Int32 × Nat × (Nat → Int32) × Int32 × Int32 × Nat × (Nat → Int32) × Int32 × Int32 × Int32 × Int32 × Nat × (Nat → Int32) × Int32), o9 = y40 → ∀ (H : Heap) (locs : List Loc) (ls : Array Slot), ww A s.heap D [[(a0.1, .inr (11, [.ref a0.2.1, .ref a0.2.2.1, .int y40.2.2.2.2.2.1, .int y40.2.2.2.2.2.2.1, .ref a0.2.2.2.1, .int y40.2.2.2.2.2.2.2.2.2.1, .int y40.2.2.2.2.2.2.2.2.2.2.1, .ref a0.2.2.2.2.1, .int y40.2.2.2.2.2.2.2.2.2.2.2.2.2.1, .int y40.2.2.2.2.2.2.2.2.2.2.2.2.2.2.1, .int y40.2.2.2.2.2.2.2.2.2.2.2.2.2.2.2.1, .int y40.2.2.2.2.2.2.2.2.2.2.2.2.2.2.2.2.1, .ref a0.2.2.2.2.2, .int y40.2.2.2.2.2.2.2.2.2.2.2.2.2.2.2.2.2.2.2]))], [(a0.2.1, .inl (cA, y40.2.1, .inl y40.2.2.1))], [(a0.2.2.1, .inl (cA, y40.2.2.2.1, .inl y40.2.2.2.2.1))], [(a0.2.2.2.1, .inl (cA, y40.2.2.2.2.2.2.2.1, .inl y40.2.2.2.2.2.2.2.2.1))], [(a0.2.2.2.2.1, .inl (cA, y40.2.2.2.2.2.2.2.2.2.2.2.1, .inl y40.2.2.2.2.2.2.2.2.2.2.2.2.1))], [(a0.2.2.2.2.2, .inl (cA, y40.2.2.2.2.2.2.2.2.2.2.2.2.2.2.2.2.2.1, .inl y40.2.2.2.2.2.2.2.2.2.2.2.2.2.2.2.2.2.2.1))]] H locs → lv_has ls 3 [(0, .ref a0.1), (1, .int p1), (2, .int y40.1)] → W p l e rX11_run s m args below meth c H locs 0 0 Q (F0 m 40 ls [])) → W p l e rX11_run s m args below meth c H locs 0 0 Q (F0 m 25 ls []) := by
      intro n25
      induction n25 with
      | zero => intro z25_0 z25_1 z25_2 z25_3 z25_4 z25_5 z25_6 z25_7 z25_8 z25_9 z25_10 z25_11 z25_12 z25_13 z25_14 z25_15 z25_16 z25_17 z25_18 z25_19 o9 hsp; cases hsp
      | succ n25 ih25 =>
        intro z25_0 z25_1 z25_2 z25_3 z25_4 z25_5 z25_6 z25_7 z25_8 z25_9 z25_10 z25_11 z25_12 z25_13 z25_14 z25_15 z25_16 z25_17 z25_18 z25_19 o9 hsp H locs ls hw hl kx25_40
        have hsp : (if p1 ≤ z25_0 then (some (z25_0, z25_1, z25_2, z25_3, z25_4, z25_5, z25_6, z25_7, z25_8, z25_9, z25_10, z25_11, z25_12, z25_13, z25_14, z25_15, z25_16, z25_17, z25_18, z25_19)) else ((sX11_ticks N ((z25_1, z25_2), (z25_3, z25_4), z25_5, z25_6, (z25_7, z25_8), z25_9, z25_10, (z25_11, z25_12), z25_13, z25_14, z25_15, z25_16, (z25_17, z25_18), z25_19)).bind (fun o11 => (qX11_run_25 N p1 n25 (z25_0 + 1) o11.1.1 o11.1.2 o11.2.1.1 o11.2.1.2 o11.2.2.1 o11.2.2.2.1 o11.2.2.2.2.1.1 o11.2.2.2.2.1.2 o11.2.2.2.2.2.1 o11.2.2.2.2.2.2.1 o11.2.2.2.2.2.2.2.1.1 o11.2.2.2.2.2.2.2.1.2 o11.2.2.2.2.2.2.2.2.1 o11.2.2.2.2.2.2.2.2.2.1 o11.2.2.2.2.2.2.2.2.2.2.1 o11.2.2.2.2.2.2.2.2.2.2.2.1 o11.2.2.2.2.2.2.2.2.2.2.2.2.1.1 o11.2.2.2.2.2.2.2.2.2.2.2.2.1.2 o11.2.2.2.2.2.2.2.2.2.2.2.2.2)))) = some o9 := hsp
        refine lv_iload_n hx hb dX11_run_25 rfl (lv_at hl 2 rfl) ?_
        refine lv_iload_n hx hb dX11_run_26 rfl (lv_at hl 1 rfl) ?_
        refine lv_icmp_ge (tgt := 40) hx hb dX11_run_27 (by decide) (fun c10 => ?_) (fun c10 => ?_)
        · have hsp := ift c10 hsp
          have hsp := Option.some.inj hsp
          subst hsp
          exact kx25_40 _ rfl _ _ _ hw (lv_sub hl [0, 1, 2] rfl)
        · have hsp := iff_ c10 hsp
          refine lv_aload_n hx hb dX11_run_30 rfl (lv_at hl 0 rfl) ?_
          have hw : ww A s.heap D [w11 cA a0 ((z25_1, z25_2), (z25_3, z25_4), z25_5, z25_6, (z25_7, z25_8), z25_9, z25_10, (z25_11, z25_12), z25_13, z25_14, z25_15, z25_16, (z25_17, z25_18), z25_19)] H locs := hw
          obtain ⟨o11, hso11, hsp⟩ := bnd_of hsp
          refine k_callV (ci := 11) (C := RX11) (T := TX11) (N := 14) (nA := 0) (As := []) (cs := [w11 cA a0 ((z25_1, z25_2), (z25_3, z25_4), z25_5, z25_6, (z25_7, z25_8), z25_9, z25_10, (z25_11, z25_12), z25_13, z25_14, z25_15, z25_16, (z25_17, z25_18), z25_19)]) (rs := []) (cs1 := [w11 cA a0 o11]) (bs1 := [w11 cA a0 o11]) (rest := []) (st1 := []) ⟨hx, hb, hml, hown, hts⟩ hz hw hA (mX11_ticks l D cA cR N a0 ((z25_1, z25_2), (z25_3, z25_4), z25_5, z25_6, (z25_7, z25_8), z25_9, z25_10, (z25_11, z25_12), z25_13, z25_14, z25_15, z25_16, (z25_17, z25_18), z25_19) o11 hso11) gX11_run_X11_ticks rfl rfl rfl (by decide +kernel) rfl ⟨Nat.le_of_ble_eq_true rfl, Nat.le_of_ble_eq_true rfl⟩ rfl rfl hl.1 rfl (Nat.le_of_ble_eq_true rfl) dX11_run_31 ⟨Nat.le_of_ble_eq_true rfl, Nat.le_of_ble_eq_true rfl⟩ [0] [] [0] rfl rfl rfl rfl rfl rfl (fun H locs hw => ?_)
          have hw : ww A s.heap D [[(a0.1, .inr (11, [.ref a0.2.1, .ref a0.2.2.1, .int o11.2.2.1, .int o11.2.2.2.1, .ref a0.2.2.2.1, .int o11.2.2.2.2.2.1, .int o11.2.2.2.2.2.2.1, .ref a0.2.2.2.2.1, .int o11.2.2.2.2.2.2.2.2.1, .int o11.2.2.2.2.2.2.2.2.2.1, .int o11.2.2.2.2.2.2.2.2.2.2.1, .int o11.2.2.2.2.2.2.2.2.2.2.2.1, .ref a0.2.2.2.2.2, .int o11.2.2.2.2.2.2.2.2.2.2.2.2.2]))], [(a0.2.1, .inl (cA, o11.1.1, .inl o11.1.2))], [(a0.2.2.1, .inl (cA, o11.2.1.1, .inl o11.2.1.2))], [(a0.2.2.2.1, .inl (cA, o11.2.2.2.2.1.1, .inl o11.2.2.2.2.1.2))], [(a0.2.2.2.2.1, .inl (cA, o11.2.2.2.2.2.2.2.1.1, .inl o11.2.2.2.2.2.2.2.1.2))], [(a0.2.2.2.2.2, .inl (cA, o11.2.2.2.2.2.2.2.2.2.2.2.2.1.1, .inl o11.2.2.2.2.2.2.2.2.2.2.2.2.1.2))]] H locs := hw
          refine lv_iinc (v := (z25_0 + 1)) (lv' := [(2, .int (z25_0 + 1)), (0, .ref a0.1), (1, .int p1)]) hx hb dX11_run_34 hl (k := 2) rfl rfl (by decide) rfl (fun ls hl => ?_)
          refine lv_goto (tgt := 25) hx hb dX11_run_37 (by decide) ?_
          exact ih25 (z25_0 + 1) o11.1.1 o11.1.2 o11.2.1.1 o11.2.1.2 o11.2.2.1 o11.2.2.2.1 o11.2.2.2.2.1.1 o11.2.2.2.2.1.2 o11.2.2.2.2.2.1 o11.2.2.2.2.2.2.1 o11.2.2.2.2.2.2.2.1.1 o11.2.2.2.2.2.2.2.1.2 o11.2.2.2.2.2.2.2.2.1 o11.2.2.2.2.2.2.2.2.2.1 o11.2.2.2.2.2.2.2.2.2.2.1 o11.2.2.2.2.2.2.2.2.2.2.2.1 o11.2.2.2.2.2.2.2.2.2.2.2.2.1.1 o11.2.2.2.2.2.2.2.2.2.2.2.2.1.2 o11.2.2.2.2.2.2.2.2.2.2.2.2.2 _ hsp _ _ _ hw (lv_sub hl [1, 2, 0] rfl) kx25_40
    obtain ⟨o9, hso9, hsp⟩ := bnd_of hsp
    refine L25 N (0 : Int32) o4.1.1 o4.1.2 o4.2.1.1 o4.2.1.2 o4.2.2.1 o4.2.2.2.1 o4.2.2.2.2.1.1 o4.2.2.2.2.1.2 o4.2.2.2.2.2.1 o4.2.2.2.2.2.2.1 o4.2.2.2.2.2.2.2.1.1 o4.2.2.2.2.2.2.2.1.2 o4.2.2.2.2.2.2.2.2.1 o4.2.2.2.2.2.2.2.2.2.1 o4.2.2.2.2.2.2.2.2.2.2.1 o4.2.2.2.2.2.2.2.2.2.2.2.1 o4.2.2.2.2.2.2.2.2.2.2.2.2.1.1 o4.2.2.2.2.2.2.2.2.2.2.2.2.1.2 o4.2.2.2.2.2.2.2.2.2.2.2.2.2 _ hso9 _ _ _ hw (lv_sub hl [1, 2, 0] rfl) (fun y40 hy40 H locs ls hw hl => ?_)
    cases hy40
    refine lv_aload_n hx hb dX11_run_40 rfl (lv_at hl 0 rfl) ?_
    refine k_get (ci := 11) (v := .ref a0.2.1) (C := RX11) (T := TX11) (N := 14) hx hb hts hown hz hw (by decide +kernel) 0 rfl rfl 0 (by decide) (hts (.fieldLink RX11 7 "OccupancyMonitorModel" "all" "[I") (by decide +kernel)) (fun _ h9 => h9) rfl dX11_run_41 ?_
    refine lv_iconst (v := 0) hx hb dX11_run_44 (by decide) ?_
    obtain ⟨g12, hsp⟩ := grd_of hsp
    refine k_iald hx hb hz hw 1 rfl g12 dX11_run_45 ?_
    have hsp := Option.some.inj hsp
    subst hsp
    have hw : ww A s.heap D [w11 cA a0 ((o9.2.1, o9.2.2.1), (o9.2.2.2.1, o9.2.2.2.2.1), o9.2.2.2.2.2.1, o9.2.2.2.2.2.2.1, (o9.2.2.2.2.2.2.2.1, o9.2.2.2.2.2.2.2.2.1), o9.2.2.2.2.2.2.2.2.2.1, o9.2.2.2.2.2.2.2.2.2.2.1, (o9.2.2.2.2.2.2.2.2.2.2.2.1, o9.2.2.2.2.2.2.2.2.2.2.2.2.1), o9.2.2.2.2.2.2.2.2.2.2.2.2.2.1, o9.2.2.2.2.2.2.2.2.2.2.2.2.2.2.1, o9.2.2.2.2.2.2.2.2.2.2.2.2.2.2.2.1, o9.2.2.2.2.2.2.2.2.2.2.2.2.2.2.2.2.1, (o9.2.2.2.2.2.2.2.2.2.2.2.2.2.2.2.2.2.1, o9.2.2.2.2.2.2.2.2.2.2.2.2.2.2.2.2.2.2.1), o9.2.2.2.2.2.2.2.2.2.2.2.2.2.2.2.2.2.2.2)] H locs := hw
    subst hQ
    exact k_iret hx hb hr hlk hw dX11_run_46
  · have hsp := ift c3 hsp
    refine lv_iconst (v := 0) hx hb dX11_run_17 (by decide) ?_
    have hsp := Option.some.inj hsp
    subst hsp
    have hw : ww A s.heap D [w11 cA a0 o2.2] H locs := hw
    subst hQ
    exact k_iret hx hb hr hlk hw dX11_run_18
noncomputable def sX11_stepNow (v0 : V11) : Option (Int32) := (grd (vp_in (6 : Int32) v0.1.1) (if (v0.1.2 (6 : Int32).toNatClampNeg) = 0 then (some (-1 : Int32)) else (grd (vp_in (7 : Int32) v0.1.1) (some (v0.1.2 (7 : Int32).toNatClampNeg)))))
abbrev rX11_stepNow : Room := { frames := 0, cells := 0, slots := 0, locals := 0 }
set_option maxHeartbeats 4000000 in
set_option maxRecDepth 100000 in
theorem mX11_stepNow (l : Launch) (D : va_G) (cA cR : ClassId) (a0 : A11) (v0 : V11) (o : Int32) (hsp : sX11_stepNow v0 = some o) : MI l yX11_stepNow wsX11_stepNow rX11_stepNow D cA cR [.ref a0.1] [w11 cA a0 v0] (some (.int o)) [w11 cA a0 v0] 0 0 := by
  have hsp : (grd (vp_in (6 : Int32) v0.1.1) (if (v0.1.2 (6 : Int32).toNatClampNeg) = 0 then (some (-1 : Int32)) else (grd (vp_in (7 : Int32) v0.1.1) (some (v0.1.2 (7 : Int32).toNatClampNeg))))) = some o := hsp
  refine MI.ofW (cc := cX11_stepNow) (maxL := 1) (ret := (some .int)) (by decide) rfl (Nat.le_of_ble_eq_true rfl) ?_
  intro p e s m args below meth c A ls Q H locs hx hb hr hlk hml hown hnm hts hz hA hQ hw hl
  have hl : lv_has ls 1 [(0, .ref a0.1)] := hl
  have hw : ww A s.heap D [[(a0.1, .inr (11, [.ref a0.2.1, .ref a0.2.2.1, .int v0.2.2.1, .int v0.2.2.2.1, .ref a0.2.2.2.1, .int v0.2.2.2.2.2.1, .int v0.2.2.2.2.2.2.1, .ref a0.2.2.2.2.1, .int v0.2.2.2.2.2.2.2.2.1, .int v0.2.2.2.2.2.2.2.2.2.1, .int v0.2.2.2.2.2.2.2.2.2.2.1, .int v0.2.2.2.2.2.2.2.2.2.2.2.1, .ref a0.2.2.2.2.2, .int v0.2.2.2.2.2.2.2.2.2.2.2.2.2]))], [(a0.2.1, .inl (cA, v0.1.1, .inl v0.1.2))], [(a0.2.2.1, .inl (cA, v0.2.1.1, .inl v0.2.1.2))], [(a0.2.2.2.1, .inl (cA, v0.2.2.2.2.1.1, .inl v0.2.2.2.2.1.2))], [(a0.2.2.2.2.1, .inl (cA, v0.2.2.2.2.2.2.2.1.1, .inl v0.2.2.2.2.2.2.2.1.2))], [(a0.2.2.2.2.2, .inl (cA, v0.2.2.2.2.2.2.2.2.2.2.2.2.1.1, .inl v0.2.2.2.2.2.2.2.2.2.2.2.2.1.2))]] H locs := hw
  refine lv_aload_n hx hb dX11_stepNow_0 rfl (lv_at hl 0 rfl) ?_
  refine k_get (ci := 11) (v := .ref a0.2.1) (C := RX11) (T := TX11) (N := 14) hx hb hts hown hz hw (by decide +kernel) 0 rfl rfl 0 (by decide) (hts (.fieldLink RX11 7 "OccupancyMonitorModel" "all" "[I") (by decide +kernel)) (fun _ h9 => h9) rfl dX11_stepNow_1 ?_
  refine lv_bipush (v := 6) hx hb dX11_stepNow_4 (by decide) ?_
  obtain ⟨g1, hsp⟩ := grd_of hsp
  refine k_iald hx hb hz hw 1 rfl g1 dX11_stepNow_6 ?_
  refine lv_if_ne (tgt := 14) hx hb dX11_stepNow_7 (by decide) (fun c2 => ?_) (fun c2 => ?_)
  · have hsp := iff_ c2 hsp
    refine lv_aload_n hx hb dX11_stepNow_14 rfl (lv_at hl 0 rfl) ?_
    refine k_get (ci := 11) (v := .ref a0.2.1) (C := RX11) (T := TX11) (N := 14) hx hb hts hown hz hw (by decide +kernel) 0 rfl rfl 0 (by decide) (hts (.fieldLink RX11 7 "OccupancyMonitorModel" "all" "[I") (by decide +kernel)) (fun _ h9 => h9) rfl dX11_stepNow_15 ?_
    refine lv_bipush (v := 7) hx hb dX11_stepNow_18 (by decide) ?_
    obtain ⟨g3, hsp⟩ := grd_of hsp
    refine k_iald hx hb hz hw 1 rfl g3 dX11_stepNow_20 ?_
    have hsp := Option.some.inj hsp
    subst hsp
    have hw : ww A s.heap D [w11 cA a0 v0] H locs := hw
    subst hQ
    exact k_iret hx hb hr hlk hw dX11_stepNow_21
  · have hsp := ift c2 hsp
    refine lv_iconst (v := -1) hx hb dX11_stepNow_10 (by decide) ?_
    refine lv_goto (tgt := 21) hx hb dX11_stepNow_11 (by decide) ?_
    have hsp := Option.some.inj hsp
    subst hsp
    have hw : ww A s.heap D [w11 cA a0 v0] H locs := hw
    subst hQ
    exact k_iret hx hb hr hlk hw dX11_stepNow_21
noncomputable def sX11_presentStep (v0 : V11) : Option (Int32 × V11) := ((sX11_stepNow (v0.1, v0.2.1, v0.2.2.1, (0 : Int32), v0.2.2.2.2.1, v0.2.2.2.2.2.1, v0.2.2.2.2.2.2.1, v0.2.2.2.2.2.2.2.1, v0.2.2.2.2.2.2.2.2.1, v0.2.2.2.2.2.2.2.2.2.1, v0.2.2.2.2.2.2.2.2.2.2.1, v0.2.2.2.2.2.2.2.2.2.2.2.1, v0.2.2.2.2.2.2.2.2.2.2.2.2.1, v0.2.2.2.2.2.2.2.2.2.2.2.2.2)).bind (fun o1 => (some (o1, (v0.1, v0.2.1, v0.2.2.1, (0 : Int32), v0.2.2.2.2.1, v0.2.2.2.2.2.1, v0.2.2.2.2.2.2.1, v0.2.2.2.2.2.2.2.1, v0.2.2.2.2.2.2.2.2.1, v0.2.2.2.2.2.2.2.2.2.1, v0.2.2.2.2.2.2.2.2.2.2.1, v0.2.2.2.2.2.2.2.2.2.2.2.1, v0.2.2.2.2.2.2.2.2.2.2.2.2.1, v0.2.2.2.2.2.2.2.2.2.2.2.2.2)))))
abbrev rX11_presentStep : Room := { frames := 1, cells := 0, slots := 0, locals := 20 }
set_option maxHeartbeats 4000000 in
set_option maxRecDepth 100000 in
theorem mX11_presentStep (l : Launch) (D : va_G) (cA cR : ClassId) (a0 : A11) (v0 : V11) (o : Int32 × V11) (hsp : sX11_presentStep v0 = some o) : MI l yX11_presentStep wsX11_presentStep rX11_presentStep D cA cR [.ref a0.1] [w11 cA a0 v0] (some (.int o.1)) [w11 cA a0 o.2] 0 0 := by
  have hsp : ((sX11_stepNow (v0.1, v0.2.1, v0.2.2.1, (0 : Int32), v0.2.2.2.2.1, v0.2.2.2.2.2.1, v0.2.2.2.2.2.2.1, v0.2.2.2.2.2.2.2.1, v0.2.2.2.2.2.2.2.2.1, v0.2.2.2.2.2.2.2.2.2.1, v0.2.2.2.2.2.2.2.2.2.2.1, v0.2.2.2.2.2.2.2.2.2.2.2.1, v0.2.2.2.2.2.2.2.2.2.2.2.2.1, v0.2.2.2.2.2.2.2.2.2.2.2.2.2)).bind (fun o1 => (some (o1, (v0.1, v0.2.1, v0.2.2.1, (0 : Int32), v0.2.2.2.2.1, v0.2.2.2.2.2.1, v0.2.2.2.2.2.2.1, v0.2.2.2.2.2.2.2.1, v0.2.2.2.2.2.2.2.2.1, v0.2.2.2.2.2.2.2.2.2.1, v0.2.2.2.2.2.2.2.2.2.2.1, v0.2.2.2.2.2.2.2.2.2.2.2.1, v0.2.2.2.2.2.2.2.2.2.2.2.2.1, v0.2.2.2.2.2.2.2.2.2.2.2.2.2))))) = some o := hsp
  refine MI.ofW (cc := cX11_presentStep) (maxL := 1) (ret := (some .int)) (by decide) rfl (Nat.le_of_ble_eq_true rfl) ?_
  intro p e s m args below meth c A ls Q H locs hx hb hr hlk hml hown hnm hts hz hA hQ hw hl
  have hl : lv_has ls 1 [(0, .ref a0.1)] := hl
  have hw : ww A s.heap D [[(a0.1, .inr (11, [.ref a0.2.1, .ref a0.2.2.1, .int v0.2.2.1, .int v0.2.2.2.1, .ref a0.2.2.2.1, .int v0.2.2.2.2.2.1, .int v0.2.2.2.2.2.2.1, .ref a0.2.2.2.2.1, .int v0.2.2.2.2.2.2.2.2.1, .int v0.2.2.2.2.2.2.2.2.2.1, .int v0.2.2.2.2.2.2.2.2.2.2.1, .int v0.2.2.2.2.2.2.2.2.2.2.2.1, .ref a0.2.2.2.2.2, .int v0.2.2.2.2.2.2.2.2.2.2.2.2.2]))], [(a0.2.1, .inl (cA, v0.1.1, .inl v0.1.2))], [(a0.2.2.1, .inl (cA, v0.2.1.1, .inl v0.2.1.2))], [(a0.2.2.2.1, .inl (cA, v0.2.2.2.2.1.1, .inl v0.2.2.2.2.1.2))], [(a0.2.2.2.2.1, .inl (cA, v0.2.2.2.2.2.2.2.1.1, .inl v0.2.2.2.2.2.2.2.1.2))], [(a0.2.2.2.2.2, .inl (cA, v0.2.2.2.2.2.2.2.2.2.2.2.2.1.1, .inl v0.2.2.2.2.2.2.2.2.2.2.2.2.1.2))]] H locs := hw
  refine lv_aload_n hx hb dX11_presentStep_0 rfl (lv_at hl 0 rfl) ?_
  refine lv_iconst (v := 0) hx hb dX11_presentStep_1 (by decide) ?_
  refine k_put (ci := 11) (v := .int (0 : Int32)) (ty := .int) (C := RX11) (T := TX11) (N := 14) (bs1 := [[(a0.1, .inr (11, [.ref a0.2.1, .ref a0.2.2.1, .int v0.2.2.1, .int (0 : Int32), .ref a0.2.2.2.1, .int v0.2.2.2.2.2.1, .int v0.2.2.2.2.2.2.1, .ref a0.2.2.2.2.1, .int v0.2.2.2.2.2.2.2.2.1, .int v0.2.2.2.2.2.2.2.2.2.1, .int v0.2.2.2.2.2.2.2.2.2.2.1, .int v0.2.2.2.2.2.2.2.2.2.2.2.1, .ref a0.2.2.2.2.2, .int v0.2.2.2.2.2.2.2.2.2.2.2.2.2]))], [(a0.2.1, .inl (cA, v0.1.1, .inl v0.1.2))], [(a0.2.2.1, .inl (cA, v0.2.1.1, .inl v0.2.1.2))], [(a0.2.2.2.1, .inl (cA, v0.2.2.2.2.1.1, .inl v0.2.2.2.2.1.2))], [(a0.2.2.2.2.1, .inl (cA, v0.2.2.2.2.2.2.2.1.1, .inl v0.2.2.2.2.2.2.2.1.2))], [(a0.2.2.2.2.2, .inl (cA, v0.2.2.2.2.2.2.2.2.2.2.2.2.1.1, .inl v0.2.2.2.2.2.2.2.2.2.2.2.2.1.2))]]) hx hb hts hown hz hw (by decide +kernel) tyX11 tyX11_ok nmX11 0 rfl rfl 3 (by decide) (hts (.fieldLink RX11 28 "OccupancyMonitorModel" "thrown" "I") (by decide +kernel)) (fun _ h9 => h9) rfl (by decide +kernel) rfl rfl (Nat.le_of_ble_eq_true rfl) dX11_presentStep_2 rfl (fun H locs hw => ?_)
  refine lv_aload_n hx hb dX11_presentStep_5 rfl (lv_at hl 0 rfl) ?_
  have hw : ww A s.heap D [w11 cA a0 (v0.1, v0.2.1, v0.2.2.1, (0 : Int32), v0.2.2.2.2.1, v0.2.2.2.2.2.1, v0.2.2.2.2.2.2.1, v0.2.2.2.2.2.2.2.1, v0.2.2.2.2.2.2.2.2.1, v0.2.2.2.2.2.2.2.2.2.1, v0.2.2.2.2.2.2.2.2.2.2.1, v0.2.2.2.2.2.2.2.2.2.2.2.1, v0.2.2.2.2.2.2.2.2.2.2.2.2.1, v0.2.2.2.2.2.2.2.2.2.2.2.2.2)] H locs := hw
  obtain ⟨o1, hso1, hsp⟩ := bnd_of hsp
  refine k_callV (ci := 11) (C := RX11) (T := TX11) (N := 14) (nA := 0) (As := []) (cs := [w11 cA a0 (v0.1, v0.2.1, v0.2.2.1, (0 : Int32), v0.2.2.2.2.1, v0.2.2.2.2.2.1, v0.2.2.2.2.2.2.1, v0.2.2.2.2.2.2.2.1, v0.2.2.2.2.2.2.2.2.1, v0.2.2.2.2.2.2.2.2.2.1, v0.2.2.2.2.2.2.2.2.2.2.1, v0.2.2.2.2.2.2.2.2.2.2.2.1, v0.2.2.2.2.2.2.2.2.2.2.2.2.1, v0.2.2.2.2.2.2.2.2.2.2.2.2.2)]) (rs := []) (cs1 := [w11 cA a0 (v0.1, v0.2.1, v0.2.2.1, (0 : Int32), v0.2.2.2.2.1, v0.2.2.2.2.2.1, v0.2.2.2.2.2.2.1, v0.2.2.2.2.2.2.2.1, v0.2.2.2.2.2.2.2.2.1, v0.2.2.2.2.2.2.2.2.2.1, v0.2.2.2.2.2.2.2.2.2.2.1, v0.2.2.2.2.2.2.2.2.2.2.2.1, v0.2.2.2.2.2.2.2.2.2.2.2.2.1, v0.2.2.2.2.2.2.2.2.2.2.2.2.2)]) (bs1 := [w11 cA a0 (v0.1, v0.2.1, v0.2.2.1, (0 : Int32), v0.2.2.2.2.1, v0.2.2.2.2.2.1, v0.2.2.2.2.2.2.1, v0.2.2.2.2.2.2.2.1, v0.2.2.2.2.2.2.2.2.1, v0.2.2.2.2.2.2.2.2.2.1, v0.2.2.2.2.2.2.2.2.2.2.1, v0.2.2.2.2.2.2.2.2.2.2.2.1, v0.2.2.2.2.2.2.2.2.2.2.2.2.1, v0.2.2.2.2.2.2.2.2.2.2.2.2.2)]) (rest := []) (st1 := [.int o1]) ⟨hx, hb, hml, hown, hts⟩ hz hw hA (mX11_stepNow l D cA cR a0 (v0.1, v0.2.1, v0.2.2.1, (0 : Int32), v0.2.2.2.2.1, v0.2.2.2.2.2.1, v0.2.2.2.2.2.2.1, v0.2.2.2.2.2.2.2.1, v0.2.2.2.2.2.2.2.2.1, v0.2.2.2.2.2.2.2.2.2.1, v0.2.2.2.2.2.2.2.2.2.2.1, v0.2.2.2.2.2.2.2.2.2.2.2.1, v0.2.2.2.2.2.2.2.2.2.2.2.2.1, v0.2.2.2.2.2.2.2.2.2.2.2.2.2) o1 hso1) gX11_presentStep_X11_stepNow rfl rfl rfl (by decide +kernel) rfl ⟨Nat.le_of_ble_eq_true rfl, Nat.le_of_ble_eq_true rfl⟩ rfl rfl hl.1 rfl (Nat.le_of_ble_eq_true rfl) dX11_presentStep_6 ⟨Nat.le_of_ble_eq_true rfl, Nat.le_of_ble_eq_true rfl⟩ [0] [] [0] rfl rfl rfl rfl rfl rfl (fun H locs hw => ?_)
  have hw : ww A s.heap D [[(a0.1, .inr (11, [.ref a0.2.1, .ref a0.2.2.1, .int v0.2.2.1, .int (0 : Int32), .ref a0.2.2.2.1, .int v0.2.2.2.2.2.1, .int v0.2.2.2.2.2.2.1, .ref a0.2.2.2.2.1, .int v0.2.2.2.2.2.2.2.2.1, .int v0.2.2.2.2.2.2.2.2.2.1, .int v0.2.2.2.2.2.2.2.2.2.2.1, .int v0.2.2.2.2.2.2.2.2.2.2.2.1, .ref a0.2.2.2.2.2, .int v0.2.2.2.2.2.2.2.2.2.2.2.2.2]))], [(a0.2.1, .inl (cA, v0.1.1, .inl v0.1.2))], [(a0.2.2.1, .inl (cA, v0.2.1.1, .inl v0.2.1.2))], [(a0.2.2.2.1, .inl (cA, v0.2.2.2.2.1.1, .inl v0.2.2.2.2.1.2))], [(a0.2.2.2.2.1, .inl (cA, v0.2.2.2.2.2.2.2.1.1, .inl v0.2.2.2.2.2.2.2.1.2))], [(a0.2.2.2.2.2, .inl (cA, v0.2.2.2.2.2.2.2.2.2.2.2.2.1.1, .inl v0.2.2.2.2.2.2.2.2.2.2.2.2.1.2))]] H locs := hw
  have hsp := Option.some.inj hsp
  subst hsp
  have hw : ww A s.heap D [w11 cA a0 (v0.1, v0.2.1, v0.2.2.1, (0 : Int32), v0.2.2.2.2.1, v0.2.2.2.2.2.1, v0.2.2.2.2.2.2.1, v0.2.2.2.2.2.2.2.1, v0.2.2.2.2.2.2.2.2.1, v0.2.2.2.2.2.2.2.2.2.1, v0.2.2.2.2.2.2.2.2.2.2.1, v0.2.2.2.2.2.2.2.2.2.2.2.1, v0.2.2.2.2.2.2.2.2.2.2.2.2.1, v0.2.2.2.2.2.2.2.2.2.2.2.2.2)] H locs := hw
  subst hQ
  exact k_iret hx hb hr hlk hw dX11_presentStep_9
noncomputable def sX11_level (N : Nat) (v0 : V11) (p1 : Int32) : Option (Int32 × V11) := ((sX11_isChannel p1).bind (fun o1 => ((sX11_goes v0 o1 (1 : Int32)).bind (fun o2 => (if o2.1 = 0 then (some ((0 : Int32), o2.2)) else ((sX11_levelNow N o2.2 p1).bind (fun o4 => (some (o4, o2.2)))))))))
abbrev rX11_level : Room := { frames := 2, cells := 0, slots := 0, locals := 45 }
set_option maxHeartbeats 4000000 in
set_option maxRecDepth 100000 in
theorem mX11_level (l : Launch) (D : va_G) (cA cR : ClassId) (N : Nat) (a0 : A11) (v0 : V11) (p1 : Int32) (o : Int32 × V11) (hsp : sX11_level N v0 p1 = some o) : MI l yX11_level wsX11_level rX11_level D cA cR [.ref a0.1, .int p1] [w11 cA a0 v0] (some (.int o.1)) [w11 cA a0 o.2] 0 0 := by
  have hsp : ((sX11_isChannel p1).bind (fun o1 => ((sX11_goes v0 o1 (1 : Int32)).bind (fun o2 => (if o2.1 = 0 then (some ((0 : Int32), o2.2)) else ((sX11_levelNow N o2.2 p1).bind (fun o4 => (some (o4, o2.2))))))))) = some o := hsp
  refine MI.ofW (cc := cX11_level) (maxL := 2) (ret := (some .int)) (by decide) rfl (Nat.le_of_ble_eq_true rfl) ?_
  intro p e s m args below meth c A ls Q H locs hx hb hr hlk hml hown hnm hts hz hA hQ hw hl
  have hl : lv_has ls 2 [(0, .ref a0.1), (1, .int p1)] := hl
  have hw : ww A s.heap D [w11 cA a0 v0] H locs := hw
  refine lv_aload_n hx hb dX11_level_0 rfl (lv_at hl 0 rfl) ?_
  refine lv_iload_n hx hb dX11_level_1 rfl (lv_at hl 1 rfl) ?_
  obtain ⟨o1, hso1, hsp⟩ := bnd_of hsp
  refine k_callS (nA := 1) (As := [.int p1]) (cs := []) (rs := [w11 cA a0 v0]) (cs1 := []) (bs1 := [w11 cA a0 v0]) (rest := [.ref a0.1]) (st1 := [.int o1, .ref a0.1]) ⟨hx, hb, hml, hown, hts⟩ hz hw hA (mX11_isChannel l D cA cR p1 o1 hso1) gX11_level_X11_isChannel rfl rfl rfl (by decide +kernel) rfl ⟨Nat.le_of_ble_eq_true rfl, Nat.le_of_ble_eq_true rfl⟩ hl.1 rfl (Nat.le_of_ble_eq_true rfl) dX11_level_2 ⟨Nat.le_of_ble_eq_true rfl, Nat.le_of_ble_eq_true rfl⟩ [] [0] [0] rfl rfl rfl rfl rfl rfl (fun H locs hw => ?_)
  refine lv_iconst (v := 1) hx hb dX11_level_5 (by decide) ?_
  obtain ⟨o2, hso2, hsp⟩ := bnd_of hsp
  refine k_callV (ci := 11) (C := RX11) (T := TX11) (N := 14) (nA := 2) (As := [.int o1, .int (1 : Int32)]) (cs := [w11 cA a0 v0]) (rs := []) (cs1 := [w11 cA a0 o2.2]) (bs1 := [w11 cA a0 o2.2]) (rest := []) (st1 := [.int o2.1]) ⟨hx, hb, hml, hown, hts⟩ hz hw hA (mX11_goes l D cA cR a0 v0 o1 (1 : Int32) o2 hso2) gX11_level_X11_goes rfl rfl rfl (by decide +kernel) rfl ⟨Nat.le_of_ble_eq_true rfl, Nat.le_of_ble_eq_true rfl⟩ rfl rfl hl.1 rfl (Nat.le_of_ble_eq_true rfl) dX11_level_6 ⟨Nat.le_of_ble_eq_true rfl, Nat.le_of_ble_eq_true rfl⟩ [0] [] [0] rfl rfl rfl rfl rfl rfl (fun H locs hw => ?_)
  refine lv_if_eq (tgt := 20) hx hb dX11_level_9 (by decide) (fun c3 => ?_) (fun c3 => ?_)
  · have hsp := ift c3 hsp
    refine lv_iconst (v := 0) hx hb dX11_level_20 (by decide) ?_
    have hsp := Option.some.inj hsp
    subst hsp
    have hw : ww A s.heap D [w11 cA a0 o2.2] H locs := hw
    subst hQ
    exact k_iret hx hb hr hlk hw dX11_level_21
  · have hsp := iff_ c3 hsp
    refine lv_aload_n hx hb dX11_level_12 rfl (lv_at hl 0 rfl) ?_
    refine lv_iload_n hx hb dX11_level_13 rfl (lv_at hl 1 rfl) ?_
    obtain ⟨o4, hso4, hsp⟩ := bnd_of hsp
    refine k_callV (ci := 11) (C := RX11) (T := TX11) (N := 14) (nA := 1) (As := [.int p1]) (cs := [w11 cA a0 o2.2]) (rs := []) (cs1 := [w11 cA a0 o2.2]) (bs1 := [w11 cA a0 o2.2]) (rest := []) (st1 := [.int o4]) ⟨hx, hb, hml, hown, hts⟩ hz hw hA (mX11_levelNow l D cA cR N a0 o2.2 p1 o4 hso4) gX11_level_X11_levelNow rfl rfl rfl (by decide +kernel) rfl ⟨Nat.le_of_ble_eq_true rfl, Nat.le_of_ble_eq_true rfl⟩ rfl rfl hl.1 rfl (Nat.le_of_ble_eq_true rfl) dX11_level_14 ⟨Nat.le_of_ble_eq_true rfl, Nat.le_of_ble_eq_true rfl⟩ [0] [] [0] rfl rfl rfl rfl rfl rfl (fun H locs hw => ?_)
    refine lv_goto (tgt := 21) hx hb dX11_level_17 (by decide) ?_
    have hsp := Option.some.inj hsp
    subst hsp
    have hw : ww A s.heap D [w11 cA a0 o2.2] H locs := hw
    subst hQ
    exact k_iret hx hb hr hlk hw dX11_level_21
noncomputable def qX11_clears_4 (v0 : V11) : Nat → Int32 → (Nat → Int32) → Option (Int32 × (Nat → Int32))
  | 0, _, _ => none
  | n4 + 1, z4_0, z4_1 => (if (554 : Int32) ≤ z4_0 then (some (z4_0, z4_1)) else (((if ((z4_0 - (138 : Int32)) - (z4_0 - (138 : Int32)) / (13 : Int32) * (13 : Int32)) = (2 : Int32) then (some (-1 : Int32)) else (some (0 : Int32))) : Option (Int32)).bind (fun j16 => (grd (vp_in z4_0 v0.1.1) (lt_ (upd z4_1 z4_0.toNatClampNeg j16) (fun f18 => (qX11_clears_4 v0 n4 (z4_0 + 1) f18)))))))
noncomputable def sX11_clears (N : Nat) (v0 : V11) : Option (V11) := ((qX11_clears_4 v0 N (138 : Int32) v0.1.2).bind (fun o13 => (grd (vp_in (9 : Int32) v0.1.1) (lt_ (upd o13.2 (9 : Int32).toNatClampNeg (0 : Int32)) (fun f21 => (some ((v0.1.1, f21), v0.2.1, v0.2.2.1, v0.2.2.2.1, v0.2.2.2.2.1, v0.2.2.2.2.2.1, v0.2.2.2.2.2.2.1, v0.2.2.2.2.2.2.2.1, v0.2.2.2.2.2.2.2.2.1, v0.2.2.2.2.2.2.2.2.2.1, v0.2.2.2.2.2.2.2.2.2.2.1, v0.2.2.2.2.2.2.2.2.2.2.2.1, v0.2.2.2.2.2.2.2.2.2.2.2.2.1, v0.2.2.2.2.2.2.2.2.2.2.2.2.2)))))))
abbrev rX11_clears : Room := { frames := 0, cells := 0, slots := 0, locals := 0 }
set_option maxHeartbeats 4000000 in
set_option maxRecDepth 100000 in
theorem mX11_clears (l : Launch) (D : va_G) (cA cR : ClassId) (N : Nat) (a0 : A11) (v0 : V11) (o : V11) (hsp : sX11_clears N v0 = some o) : MI l yX11_clears wsX11_clears rX11_clears D cA cR [.ref a0.1] [w11 cA a0 v0] none [w11 cA a0 o] 0 0 := by
  have hsp : ((qX11_clears_4 v0 N (138 : Int32) v0.1.2).bind (fun o13 => (grd (vp_in (9 : Int32) v0.1.1) (lt_ (upd o13.2 (9 : Int32).toNatClampNeg (0 : Int32)) (fun f21 => (some ((v0.1.1, f21), v0.2.1, v0.2.2.1, v0.2.2.2.1, v0.2.2.2.2.1, v0.2.2.2.2.2.1, v0.2.2.2.2.2.2.1, v0.2.2.2.2.2.2.2.1, v0.2.2.2.2.2.2.2.2.1, v0.2.2.2.2.2.2.2.2.2.1, v0.2.2.2.2.2.2.2.2.2.2.1, v0.2.2.2.2.2.2.2.2.2.2.2.1, v0.2.2.2.2.2.2.2.2.2.2.2.2.1, v0.2.2.2.2.2.2.2.2.2.2.2.2.2))))))) = some o := hsp
  refine MI.ofW (cc := cX11_clears) (maxL := 2) (ret := none) (by decide) rfl (Nat.le_of_ble_eq_true rfl) ?_
  intro p e s m args below meth c A ls Q H locs hx hb hr hlk hml hown hnm hts hz hA hQ hw hl
  have hl : lv_has ls 2 [(0, .ref a0.1)] := hl
  have hw : ww A s.heap D [[(a0.1, .inr (11, [.ref a0.2.1, .ref a0.2.2.1, .int v0.2.2.1, .int v0.2.2.2.1, .ref a0.2.2.2.1, .int v0.2.2.2.2.2.1, .int v0.2.2.2.2.2.2.1, .ref a0.2.2.2.2.1, .int v0.2.2.2.2.2.2.2.2.1, .int v0.2.2.2.2.2.2.2.2.2.1, .int v0.2.2.2.2.2.2.2.2.2.2.1, .int v0.2.2.2.2.2.2.2.2.2.2.2.1, .ref a0.2.2.2.2.2, .int v0.2.2.2.2.2.2.2.2.2.2.2.2.2]))], [(a0.2.1, .inl (cA, v0.1.1, .inl v0.1.2))], [(a0.2.2.1, .inl (cA, v0.2.1.1, .inl v0.2.1.2))], [(a0.2.2.2.1, .inl (cA, v0.2.2.2.2.1.1, .inl v0.2.2.2.2.1.2))], [(a0.2.2.2.2.1, .inl (cA, v0.2.2.2.2.2.2.2.1.1, .inl v0.2.2.2.2.2.2.2.1.2))], [(a0.2.2.2.2.2, .inl (cA, v0.2.2.2.2.2.2.2.2.2.2.2.2.1.1, .inl v0.2.2.2.2.2.2.2.2.2.2.2.2.1.2))]] H locs := hw
  refine lv_sipush (v := 138) hx hb dX11_clears_0 (by decide) ?_
  refine lv_istore_n (lv' := [(1, .int (138 : Int32)), (0, .ref a0.1)]) hx hb dX11_clears_3 rfl hl (by decide) rfl (fun ls hl => ?_)
  have L4 : ∀ (n4 : Nat) (z4_0 : Int32) (z4_1 : (Nat → Int32)) (o13 : Int32 × (Nat → Int32)), qX11_clears_4 v0 n4 z4_0 z4_1 = some o13 → ∀ (H : Heap) (locs : List Loc) (ls : Array Slot), ww A s.heap D [[(a0.1, .inr (11, [.ref a0.2.1, .ref a0.2.2.1, .int v0.2.2.1, .int v0.2.2.2.1, .ref a0.2.2.2.1, .int v0.2.2.2.2.2.1, .int v0.2.2.2.2.2.2.1, .ref a0.2.2.2.2.1, .int v0.2.2.2.2.2.2.2.2.1, .int v0.2.2.2.2.2.2.2.2.2.1, .int v0.2.2.2.2.2.2.2.2.2.2.1, .int v0.2.2.2.2.2.2.2.2.2.2.2.1, .ref a0.2.2.2.2.2, .int v0.2.2.2.2.2.2.2.2.2.2.2.2.2]))], [(a0.2.1, .inl (cA, v0.1.1, .inl z4_1))], [(a0.2.2.1, .inl (cA, v0.2.1.1, .inl v0.2.1.2))], [(a0.2.2.2.1, .inl (cA, v0.2.2.2.2.1.1, .inl v0.2.2.2.2.1.2))], [(a0.2.2.2.2.1, .inl (cA, v0.2.2.2.2.2.2.2.1.1, .inl v0.2.2.2.2.2.2.2.1.2))], [(a0.2.2.2.2.2, .inl (cA, v0.2.2.2.2.2.2.2.2.2.2.2.2.1.1, .inl v0.2.2.2.2.2.2.2.2.2.2.2.2.1.2))]] H locs → lv_has ls 2 [(0, .ref a0.1), (1, .int z4_0)] → (∀ (y40 : Int32 × (Nat → Int32)), o13 = y40 → ∀ (H : Heap) (locs : List Loc) (ls : Array Slot), ww A s.heap D [[(a0.1, .inr (11, [.ref a0.2.1, .ref a0.2.2.1, .int v0.2.2.1, .int v0.2.2.2.1, .ref a0.2.2.2.1, .int v0.2.2.2.2.2.1, .int v0.2.2.2.2.2.2.1, .ref a0.2.2.2.2.1, .int v0.2.2.2.2.2.2.2.2.1, .int v0.2.2.2.2.2.2.2.2.2.1, .int v0.2.2.2.2.2.2.2.2.2.2.1, .int v0.2.2.2.2.2.2.2.2.2.2.2.1, .ref a0.2.2.2.2.2, .int v0.2.2.2.2.2.2.2.2.2.2.2.2.2]))], [(a0.2.1, .inl (cA, v0.1.1, .inl y40.2))], [(a0.2.2.1, .inl (cA, v0.2.1.1, .inl v0.2.1.2))], [(a0.2.2.2.1, .inl (cA, v0.2.2.2.2.1.1, .inl v0.2.2.2.2.1.2))], [(a0.2.2.2.2.1, .inl (cA, v0.2.2.2.2.2.2.2.1.1, .inl v0.2.2.2.2.2.2.2.1.2))], [(a0.2.2.2.2.2, .inl (cA, v0.2.2.2.2.2.2.2.2.2.2.2.2.1.1, .inl v0.2.2.2.2.2.2.2.2.2.2.2.2.1.2))]] H locs → lv_has ls 2 [(0, .ref a0.1), (1, .int y40.1)] → W p l e rX11_clears s m args below meth c H locs 0 0 Q (F0 m 40 ls [])) → W p l e rX11_clears s m args below meth c H locs 0 0 Q (F0 m 4 ls []) := by
    intro n4
    induction n4 with
    | zero => intro z4_0 z4_1 o13 hsp; cases hsp
    | succ n4 ih4 =>
      intro z4_0 z4_1 o13 hsp H locs ls hw hl kx4_40
      have hsp : (if (554 : Int32) ≤ z4_0 then (some (z4_0, z4_1)) else (((if ((z4_0 - (138 : Int32)) - (z4_0 - (138 : Int32)) / (13 : Int32) * (13 : Int32)) = (2 : Int32) then (some (-1 : Int32)) else (some (0 : Int32))) : Option (Int32)).bind (fun j16 => (grd (vp_in z4_0 v0.1.1) (lt_ (upd z4_1 z4_0.toNatClampNeg j16) (fun f18 => (qX11_clears_4 v0 n4 (z4_0 + 1) f18))))))) = some o13 := hsp
      refine lv_iload_n hx hb dX11_clears_4 rfl (lv_at hl 1 rfl) ?_
      refine lv_sipush (v := 554) hx hb dX11_clears_5 (by decide) ?_
      refine lv_icmp_ge (tgt := 40) hx hb dX11_clears_8 (by decide) (fun c14 => ?_) (fun c14 => ?_)
      · have hsp := ift c14 hsp
        have hsp := Option.some.inj hsp
        subst hsp
        exact kx4_40 _ rfl _ _ _ hw (lv_sub hl [0, 1] rfl)
      · have hsp := iff_ c14 hsp
        refine lv_aload_n hx hb dX11_clears_11 rfl (lv_at hl 0 rfl) ?_
        refine k_get (ci := 11) (v := .ref a0.2.1) (C := RX11) (T := TX11) (N := 14) hx hb hts hown hz hw (by decide +kernel) 0 rfl rfl 0 (by decide) (hts (.fieldLink RX11 7 "OccupancyMonitorModel" "all" "[I") (by decide +kernel)) (fun _ h9 => h9) rfl dX11_clears_12 ?_
        refine lv_iload_n hx hb dX11_clears_15 rfl (lv_at hl 1 rfl) ?_
        refine lv_iload_n hx hb dX11_clears_16 rfl (lv_at hl 1 rfl) ?_
        refine lv_sipush (v := 138) hx hb dX11_clears_17 (by decide) ?_
        refine lv_isub hx hb dX11_clears_20 ?_
        refine lv_bipush (v := 13) hx hb dX11_clears_21 (by decide) ?_
        refine lv_irem hx hb dX11_clears_23 (by decide) ?_
        refine lv_iconst (v := 2) hx hb dX11_clears_24 (by decide) ?_
        obtain ⟨j16, hsj16, hkj16⟩ := bnd_of hsp
        have Jj16 : ∀ (H : Heap) (locs : List Loc) (ls : Array Slot), ww A s.heap D [[(a0.1, .inr (11, [.ref a0.2.1, .ref a0.2.2.1, .int v0.2.2.1, .int v0.2.2.2.1, .ref a0.2.2.2.1, .int v0.2.2.2.2.2.1, .int v0.2.2.2.2.2.2.1, .ref a0.2.2.2.2.1, .int v0.2.2.2.2.2.2.2.2.1, .int v0.2.2.2.2.2.2.2.2.2.1, .int v0.2.2.2.2.2.2.2.2.2.2.1, .int v0.2.2.2.2.2.2.2.2.2.2.2.1, .ref a0.2.2.2.2.2, .int v0.2.2.2.2.2.2.2.2.2.2.2.2.2]))], [(a0.2.1, .inl (cA, v0.1.1, .inl z4_1))], [(a0.2.2.1, .inl (cA, v0.2.1.1, .inl v0.2.1.2))], [(a0.2.2.2.1, .inl (cA, v0.2.2.2.2.1.1, .inl v0.2.2.2.2.1.2))], [(a0.2.2.2.2.1, .inl (cA, v0.2.2.2.2.2.2.2.1.1, .inl v0.2.2.2.2.2.2.2.1.2))], [(a0.2.2.2.2.2, .inl (cA, v0.2.2.2.2.2.2.2.2.2.2.2.2.1.1, .inl v0.2.2.2.2.2.2.2.2.2.2.2.2.1.2))]] H locs → lv_has ls 2 [(0, .ref a0.1), (1, .int z4_0)] → W p l e rX11_clears s m args below meth c H locs 0 0 Q (F0 m 33 ls [.int j16, .int z4_0, .ref a0.2.1]) := by
          intro H locs ls hw hl
          have hsp := hkj16
          obtain ⟨g17, hsp⟩ := grd_of hsp
          obtain ⟨f18, ef18⟩ : ∃ u : Nat → Int32, u = (upd z4_1 z4_0.toNatClampNeg j16) := ⟨_, rfl⟩
          have hsp := lt_of hsp ef18
          refine k_iast (bs1 := [[(a0.1, .inr (11, [.ref a0.2.1, .ref a0.2.2.1, .int v0.2.2.1, .int v0.2.2.2.1, .ref a0.2.2.2.1, .int v0.2.2.2.2.2.1, .int v0.2.2.2.2.2.2.1, .ref a0.2.2.2.2.1, .int v0.2.2.2.2.2.2.2.2.1, .int v0.2.2.2.2.2.2.2.2.2.1, .int v0.2.2.2.2.2.2.2.2.2.2.1, .int v0.2.2.2.2.2.2.2.2.2.2.2.1, .ref a0.2.2.2.2.2, .int v0.2.2.2.2.2.2.2.2.2.2.2.2.2]))], [(a0.2.1, .inl (cA, v0.1.1, .inl f18))], [(a0.2.2.1, .inl (cA, v0.2.1.1, .inl v0.2.1.2))], [(a0.2.2.2.1, .inl (cA, v0.2.2.2.2.1.1, .inl v0.2.2.2.2.1.2))], [(a0.2.2.2.2.1, .inl (cA, v0.2.2.2.2.2.2.2.1.1, .inl v0.2.2.2.2.2.2.2.1.2))], [(a0.2.2.2.2.2, .inl (cA, v0.2.2.2.2.2.2.2.2.2.2.2.2.1.1, .inl v0.2.2.2.2.2.2.2.2.2.2.2.2.1.2))]]) hx hb hz hw 1 rfl g17 dX11_clears_33 (by rw [ef18]; rfl) (fun H locs hw => ?_)
          refine lv_iinc (v := (z4_0 + 1)) (lv' := [(1, .int (z4_0 + 1)), (0, .ref a0.1)]) hx hb dX11_clears_34 hl (k := 1) rfl rfl (by decide) rfl (fun ls hl => ?_)
          refine lv_goto (tgt := 4) hx hb dX11_clears_37 (by decide) ?_
          exact ih4 (z4_0 + 1) f18 _ hsp _ _ _ hw (lv_sub hl [1, 0] rfl) kx4_40
        have hsp := hsj16
        refine lv_icmp_ne (tgt := 32) hx hb dX11_clears_25 (by decide) (fun c19 => ?_) (fun c19 => ?_)
        · have hsp := iff_ c19 hsp
          refine lv_iconst (v := 0) hx hb dX11_clears_32 (by decide) ?_
          have hsp := Option.some.inj hsp
          subst hsp
          exact Jj16 _ _ _ hw (lv_sub hl [0, 1] rfl)
        · have hsp := ift c19 hsp
          refine lv_iconst (v := -1) hx hb dX11_clears_28 (by decide) ?_
          refine lv_goto (tgt := 33) hx hb dX11_clears_29 (by decide) ?_
          have hsp := Option.some.inj hsp
          subst hsp
          exact Jj16 _ _ _ hw (lv_sub hl [0, 1] rfl)
  obtain ⟨o13, hso13, hsp⟩ := bnd_of hsp
  refine L4 N (138 : Int32) v0.1.2 _ hso13 _ _ _ hw (lv_sub hl [1, 0] rfl) (fun y40 hy40 H locs ls hw hl => ?_)
  cases hy40
  refine lv_aload_n hx hb dX11_clears_40 rfl (lv_at hl 0 rfl) ?_
  refine k_get (ci := 11) (v := .ref a0.2.1) (C := RX11) (T := TX11) (N := 14) hx hb hts hown hz hw (by decide +kernel) 0 rfl rfl 0 (by decide) (hts (.fieldLink RX11 7 "OccupancyMonitorModel" "all" "[I") (by decide +kernel)) (fun _ h9 => h9) rfl dX11_clears_41 ?_
  refine lv_bipush (v := 9) hx hb dX11_clears_44 (by decide) ?_
  refine lv_iconst (v := 0) hx hb dX11_clears_46 (by decide) ?_
  obtain ⟨g20, hsp⟩ := grd_of hsp
  obtain ⟨f21, ef21⟩ : ∃ u : Nat → Int32, u = (upd o13.2 (9 : Int32).toNatClampNeg (0 : Int32)) := ⟨_, rfl⟩
  have hsp := lt_of hsp ef21
  refine k_iast (bs1 := [[(a0.1, .inr (11, [.ref a0.2.1, .ref a0.2.2.1, .int v0.2.2.1, .int v0.2.2.2.1, .ref a0.2.2.2.1, .int v0.2.2.2.2.2.1, .int v0.2.2.2.2.2.2.1, .ref a0.2.2.2.2.1, .int v0.2.2.2.2.2.2.2.2.1, .int v0.2.2.2.2.2.2.2.2.2.1, .int v0.2.2.2.2.2.2.2.2.2.2.1, .int v0.2.2.2.2.2.2.2.2.2.2.2.1, .ref a0.2.2.2.2.2, .int v0.2.2.2.2.2.2.2.2.2.2.2.2.2]))], [(a0.2.1, .inl (cA, v0.1.1, .inl f21))], [(a0.2.2.1, .inl (cA, v0.2.1.1, .inl v0.2.1.2))], [(a0.2.2.2.1, .inl (cA, v0.2.2.2.2.1.1, .inl v0.2.2.2.2.1.2))], [(a0.2.2.2.2.1, .inl (cA, v0.2.2.2.2.2.2.2.1.1, .inl v0.2.2.2.2.2.2.2.1.2))], [(a0.2.2.2.2.2, .inl (cA, v0.2.2.2.2.2.2.2.2.2.2.2.2.1.1, .inl v0.2.2.2.2.2.2.2.2.2.2.2.2.1.2))]]) hx hb hz hw 1 rfl g20 dX11_clears_47 (by rw [ef21]; rfl) (fun H locs hw => ?_)
  have hsp := Option.some.inj hsp
  subst hsp
  have hw : ww A s.heap D [w11 cA a0 ((v0.1.1, f21), v0.2.1, v0.2.2.1, v0.2.2.2.1, v0.2.2.2.2.1, v0.2.2.2.2.2.1, v0.2.2.2.2.2.2.1, v0.2.2.2.2.2.2.2.1, v0.2.2.2.2.2.2.2.2.1, v0.2.2.2.2.2.2.2.2.2.1, v0.2.2.2.2.2.2.2.2.2.2.1, v0.2.2.2.2.2.2.2.2.2.2.2.1, v0.2.2.2.2.2.2.2.2.2.2.2.2.1, v0.2.2.2.2.2.2.2.2.2.2.2.2.2)] H locs := hw
  subst hQ
  exact k_vret hx hb hr hlk hw dX11_clears_48
noncomputable def sX11_detector (v0 : V11) (p1 : Int32) (p2 : Int32) : Option (Int32 × V11) := ((sX11_isChannel p1).bind (fun o1 => ((sX11_in p2.toInt64 (0 : Int64) (3 : Int64)).bind (fun o2 => ((sX11_goes v0 o1 o2).bind (fun o3 => (if o3.1 = 0 then (some ((0 : Int32), o3.2)) else (grd (vp_in (((138 : Int32) + ((13 : Int32) * p1)) + p2) o3.2.1.1) (some ((o3.2.1.2 (((138 : Int32) + ((13 : Int32) * p1)) + p2).toNatClampNeg), o3.2))))))))))
abbrev rX11_detector : Room := { frames := 2, cells := 0, slots := 0, locals := 45 }
set_option maxHeartbeats 4000000 in
set_option maxRecDepth 100000 in
theorem mX11_detector (l : Launch) (D : va_G) (cA cR : ClassId) (a0 : A11) (v0 : V11) (p1 : Int32) (p2 : Int32) (o : Int32 × V11) (hsp : sX11_detector v0 p1 p2 = some o) : MI l yX11_detector wsX11_detector rX11_detector D cA cR [.ref a0.1, .int p1, .int p2] [w11 cA a0 v0] (some (.int o.1)) [w11 cA a0 o.2] 0 0 := by
  have hsp : ((sX11_isChannel p1).bind (fun o1 => ((sX11_in p2.toInt64 (0 : Int64) (3 : Int64)).bind (fun o2 => ((sX11_goes v0 o1 o2).bind (fun o3 => (if o3.1 = 0 then (some ((0 : Int32), o3.2)) else (grd (vp_in (((138 : Int32) + ((13 : Int32) * p1)) + p2) o3.2.1.1) (some ((o3.2.1.2 (((138 : Int32) + ((13 : Int32) * p1)) + p2).toNatClampNeg), o3.2)))))))))) = some o := hsp
  refine MI.ofW (cc := cX11_detector) (maxL := 3) (ret := (some .int)) (by decide) rfl (Nat.le_of_ble_eq_true rfl) ?_
  intro p e s m args below meth c A ls Q H locs hx hb hr hlk hml hown hnm hts hz hA hQ hw hl
  have hl : lv_has ls 3 [(0, .ref a0.1), (1, .int p1), (2, .int p2)] := hl
  have hw : ww A s.heap D [[(a0.1, .inr (11, [.ref a0.2.1, .ref a0.2.2.1, .int v0.2.2.1, .int v0.2.2.2.1, .ref a0.2.2.2.1, .int v0.2.2.2.2.2.1, .int v0.2.2.2.2.2.2.1, .ref a0.2.2.2.2.1, .int v0.2.2.2.2.2.2.2.2.1, .int v0.2.2.2.2.2.2.2.2.2.1, .int v0.2.2.2.2.2.2.2.2.2.2.1, .int v0.2.2.2.2.2.2.2.2.2.2.2.1, .ref a0.2.2.2.2.2, .int v0.2.2.2.2.2.2.2.2.2.2.2.2.2]))], [(a0.2.1, .inl (cA, v0.1.1, .inl v0.1.2))], [(a0.2.2.1, .inl (cA, v0.2.1.1, .inl v0.2.1.2))], [(a0.2.2.2.1, .inl (cA, v0.2.2.2.2.1.1, .inl v0.2.2.2.2.1.2))], [(a0.2.2.2.2.1, .inl (cA, v0.2.2.2.2.2.2.2.1.1, .inl v0.2.2.2.2.2.2.2.1.2))], [(a0.2.2.2.2.2, .inl (cA, v0.2.2.2.2.2.2.2.2.2.2.2.2.1.1, .inl v0.2.2.2.2.2.2.2.2.2.2.2.2.1.2))]] H locs := hw
  refine lv_aload_n hx hb dX11_detector_0 rfl (lv_at hl 0 rfl) ?_
  refine lv_iload_n hx hb dX11_detector_1 rfl (lv_at hl 1 rfl) ?_
  obtain ⟨o1, hso1, hsp⟩ := bnd_of hsp
  refine k_callS (nA := 1) (As := [.int p1]) (cs := []) (rs := [[(a0.1, .inr (11, [.ref a0.2.1, .ref a0.2.2.1, .int v0.2.2.1, .int v0.2.2.2.1, .ref a0.2.2.2.1, .int v0.2.2.2.2.2.1, .int v0.2.2.2.2.2.2.1, .ref a0.2.2.2.2.1, .int v0.2.2.2.2.2.2.2.2.1, .int v0.2.2.2.2.2.2.2.2.2.1, .int v0.2.2.2.2.2.2.2.2.2.2.1, .int v0.2.2.2.2.2.2.2.2.2.2.2.1, .ref a0.2.2.2.2.2, .int v0.2.2.2.2.2.2.2.2.2.2.2.2.2]))], [(a0.2.1, .inl (cA, v0.1.1, .inl v0.1.2))], [(a0.2.2.1, .inl (cA, v0.2.1.1, .inl v0.2.1.2))], [(a0.2.2.2.1, .inl (cA, v0.2.2.2.2.1.1, .inl v0.2.2.2.2.1.2))], [(a0.2.2.2.2.1, .inl (cA, v0.2.2.2.2.2.2.2.1.1, .inl v0.2.2.2.2.2.2.2.1.2))], [(a0.2.2.2.2.2, .inl (cA, v0.2.2.2.2.2.2.2.2.2.2.2.2.1.1, .inl v0.2.2.2.2.2.2.2.2.2.2.2.2.1.2))]]) (cs1 := []) (bs1 := [[(a0.1, .inr (11, [.ref a0.2.1, .ref a0.2.2.1, .int v0.2.2.1, .int v0.2.2.2.1, .ref a0.2.2.2.1, .int v0.2.2.2.2.2.1, .int v0.2.2.2.2.2.2.1, .ref a0.2.2.2.2.1, .int v0.2.2.2.2.2.2.2.2.1, .int v0.2.2.2.2.2.2.2.2.2.1, .int v0.2.2.2.2.2.2.2.2.2.2.1, .int v0.2.2.2.2.2.2.2.2.2.2.2.1, .ref a0.2.2.2.2.2, .int v0.2.2.2.2.2.2.2.2.2.2.2.2.2]))], [(a0.2.1, .inl (cA, v0.1.1, .inl v0.1.2))], [(a0.2.2.1, .inl (cA, v0.2.1.1, .inl v0.2.1.2))], [(a0.2.2.2.1, .inl (cA, v0.2.2.2.2.1.1, .inl v0.2.2.2.2.1.2))], [(a0.2.2.2.2.1, .inl (cA, v0.2.2.2.2.2.2.2.1.1, .inl v0.2.2.2.2.2.2.2.1.2))], [(a0.2.2.2.2.2, .inl (cA, v0.2.2.2.2.2.2.2.2.2.2.2.2.1.1, .inl v0.2.2.2.2.2.2.2.2.2.2.2.2.1.2))]]) (rest := [.ref a0.1]) (st1 := [.int o1, .ref a0.1]) ⟨hx, hb, hml, hown, hts⟩ hz hw hA (mX11_isChannel l D cA cR p1 o1 hso1) gX11_detector_X11_isChannel rfl rfl rfl (by decide +kernel) rfl ⟨Nat.le_of_ble_eq_true rfl, Nat.le_of_ble_eq_true rfl⟩ hl.1 rfl (Nat.le_of_ble_eq_true rfl) dX11_detector_2 ⟨Nat.le_of_ble_eq_true rfl, Nat.le_of_ble_eq_true rfl⟩ [] [0, 1, 2, 3, 4, 5] [0, 1, 2, 3, 4, 5] rfl rfl rfl rfl rfl rfl (fun H locs hw => ?_)
  refine lv_iload_n hx hb dX11_detector_5 rfl (lv_at hl 2 rfl) ?_
  refine lv_i2l hx hb dX11_detector_6 rfl ?_
  refine lv_lconst (v := 0) hx hb dX11_detector_7 (by decide) ?_
  refine lv_ldc2 hx hb hown (hts (.constantLong RX11 154 3) (by decide +kernel)) dX11_detector_8 ?_
  obtain ⟨o2, hso2, hsp⟩ := bnd_of hsp
  refine k_callS (nA := 3) (As := [.long p2.toInt64, .long (0 : Int64), .long (3 : Int64)]) (cs := []) (rs := [[(a0.1, .inr (11, [.ref a0.2.1, .ref a0.2.2.1, .int v0.2.2.1, .int v0.2.2.2.1, .ref a0.2.2.2.1, .int v0.2.2.2.2.2.1, .int v0.2.2.2.2.2.2.1, .ref a0.2.2.2.2.1, .int v0.2.2.2.2.2.2.2.2.1, .int v0.2.2.2.2.2.2.2.2.2.1, .int v0.2.2.2.2.2.2.2.2.2.2.1, .int v0.2.2.2.2.2.2.2.2.2.2.2.1, .ref a0.2.2.2.2.2, .int v0.2.2.2.2.2.2.2.2.2.2.2.2.2]))], [(a0.2.1, .inl (cA, v0.1.1, .inl v0.1.2))], [(a0.2.2.1, .inl (cA, v0.2.1.1, .inl v0.2.1.2))], [(a0.2.2.2.1, .inl (cA, v0.2.2.2.2.1.1, .inl v0.2.2.2.2.1.2))], [(a0.2.2.2.2.1, .inl (cA, v0.2.2.2.2.2.2.2.1.1, .inl v0.2.2.2.2.2.2.2.1.2))], [(a0.2.2.2.2.2, .inl (cA, v0.2.2.2.2.2.2.2.2.2.2.2.2.1.1, .inl v0.2.2.2.2.2.2.2.2.2.2.2.2.1.2))]]) (cs1 := []) (bs1 := [[(a0.1, .inr (11, [.ref a0.2.1, .ref a0.2.2.1, .int v0.2.2.1, .int v0.2.2.2.1, .ref a0.2.2.2.1, .int v0.2.2.2.2.2.1, .int v0.2.2.2.2.2.2.1, .ref a0.2.2.2.2.1, .int v0.2.2.2.2.2.2.2.2.1, .int v0.2.2.2.2.2.2.2.2.2.1, .int v0.2.2.2.2.2.2.2.2.2.2.1, .int v0.2.2.2.2.2.2.2.2.2.2.2.1, .ref a0.2.2.2.2.2, .int v0.2.2.2.2.2.2.2.2.2.2.2.2.2]))], [(a0.2.1, .inl (cA, v0.1.1, .inl v0.1.2))], [(a0.2.2.1, .inl (cA, v0.2.1.1, .inl v0.2.1.2))], [(a0.2.2.2.1, .inl (cA, v0.2.2.2.2.1.1, .inl v0.2.2.2.2.1.2))], [(a0.2.2.2.2.1, .inl (cA, v0.2.2.2.2.2.2.2.1.1, .inl v0.2.2.2.2.2.2.2.1.2))], [(a0.2.2.2.2.2, .inl (cA, v0.2.2.2.2.2.2.2.2.2.2.2.2.1.1, .inl v0.2.2.2.2.2.2.2.2.2.2.2.2.1.2))]]) (rest := [.int o1, .ref a0.1]) (st1 := [.int o2, .int o1, .ref a0.1]) ⟨hx, hb, hml, hown, hts⟩ hz hw hA (mX11_in l D cA cR p2.toInt64 (0 : Int64) (3 : Int64) o2 hso2) gX11_detector_X11_in rfl rfl rfl (by decide +kernel) rfl ⟨Nat.le_of_ble_eq_true rfl, Nat.le_of_ble_eq_true rfl⟩ hl.1 rfl (Nat.le_of_ble_eq_true rfl) dX11_detector_11 ⟨Nat.le_of_ble_eq_true rfl, Nat.le_of_ble_eq_true rfl⟩ [] [0, 1, 2, 3, 4, 5] [0, 1, 2, 3, 4, 5] rfl rfl rfl rfl rfl rfl (fun H locs hw => ?_)
  have hw : ww A s.heap D [w11 cA a0 v0] H locs := hw
  obtain ⟨o3, hso3, hsp⟩ := bnd_of hsp
  refine k_callV (ci := 11) (C := RX11) (T := TX11) (N := 14) (nA := 2) (As := [.int o1, .int o2]) (cs := [w11 cA a0 v0]) (rs := []) (cs1 := [w11 cA a0 o3.2]) (bs1 := [w11 cA a0 o3.2]) (rest := []) (st1 := [.int o3.1]) ⟨hx, hb, hml, hown, hts⟩ hz hw hA (mX11_goes l D cA cR a0 v0 o1 o2 o3 hso3) gX11_detector_X11_goes rfl rfl rfl (by decide +kernel) rfl ⟨Nat.le_of_ble_eq_true rfl, Nat.le_of_ble_eq_true rfl⟩ rfl rfl hl.1 rfl (Nat.le_of_ble_eq_true rfl) dX11_detector_14 ⟨Nat.le_of_ble_eq_true rfl, Nat.le_of_ble_eq_true rfl⟩ [0] [] [0] rfl rfl rfl rfl rfl rfl (fun H locs hw => ?_)
  have hw : ww A s.heap D [[(a0.1, .inr (11, [.ref a0.2.1, .ref a0.2.2.1, .int o3.2.2.2.1, .int o3.2.2.2.2.1, .ref a0.2.2.2.1, .int o3.2.2.2.2.2.2.1, .int o3.2.2.2.2.2.2.2.1, .ref a0.2.2.2.2.1, .int o3.2.2.2.2.2.2.2.2.2.1, .int o3.2.2.2.2.2.2.2.2.2.2.1, .int o3.2.2.2.2.2.2.2.2.2.2.2.1, .int o3.2.2.2.2.2.2.2.2.2.2.2.2.1, .ref a0.2.2.2.2.2, .int o3.2.2.2.2.2.2.2.2.2.2.2.2.2.2]))], [(a0.2.1, .inl (cA, o3.2.1.1, .inl o3.2.1.2))], [(a0.2.2.1, .inl (cA, o3.2.2.1.1, .inl o3.2.2.1.2))], [(a0.2.2.2.1, .inl (cA, o3.2.2.2.2.2.1.1, .inl o3.2.2.2.2.2.1.2))], [(a0.2.2.2.2.1, .inl (cA, o3.2.2.2.2.2.2.2.2.1.1, .inl o3.2.2.2.2.2.2.2.2.1.2))], [(a0.2.2.2.2.2, .inl (cA, o3.2.2.2.2.2.2.2.2.2.2.2.2.2.1.1, .inl o3.2.2.2.2.2.2.2.2.2.2.2.2.2.1.2))]] H locs := hw
  refine lv_if_eq (tgt := 38) hx hb dX11_detector_17 (by decide) (fun c4 => ?_) (fun c4 => ?_)
  · have hsp := ift c4 hsp
    refine lv_iconst (v := 0) hx hb dX11_detector_38 (by decide) ?_
    have hsp := Option.some.inj hsp
    subst hsp
    have hw : ww A s.heap D [w11 cA a0 o3.2] H locs := hw
    subst hQ
    exact k_iret hx hb hr hlk hw dX11_detector_39
  · have hsp := iff_ c4 hsp
    refine lv_aload_n hx hb dX11_detector_20 rfl (lv_at hl 0 rfl) ?_
    refine k_get (ci := 11) (v := .ref a0.2.1) (C := RX11) (T := TX11) (N := 14) hx hb hts hown hz hw (by decide +kernel) 0 rfl rfl 0 (by decide) (hts (.fieldLink RX11 7 "OccupancyMonitorModel" "all" "[I") (by decide +kernel)) (fun _ h9 => h9) rfl dX11_detector_21 ?_
    refine lv_sipush (v := 138) hx hb dX11_detector_24 (by decide) ?_
    refine lv_bipush (v := 13) hx hb dX11_detector_27 (by decide) ?_
    refine lv_iload_n hx hb dX11_detector_29 rfl (lv_at hl 1 rfl) ?_
    refine lv_imul hx hb dX11_detector_30 ?_
    refine lv_iadd hx hb dX11_detector_31 ?_
    refine lv_iload_n hx hb dX11_detector_32 rfl (lv_at hl 2 rfl) ?_
    refine lv_iadd hx hb dX11_detector_33 ?_
    obtain ⟨g5, hsp⟩ := grd_of hsp
    refine k_iald hx hb hz hw 1 rfl g5 dX11_detector_34 ?_
    refine lv_goto (tgt := 39) hx hb dX11_detector_35 (by decide) ?_
    have hsp := Option.some.inj hsp
    subst hsp
    have hw : ww A s.heap D [w11 cA a0 o3.2] H locs := hw
    subst hQ
    exact k_iret hx hb hr hlk hw dX11_detector_39
noncomputable def qX11_averageOf_14 (v0 : V11) (p1 : Int32) : Nat → Int32 → Int32 → Option (Int32 × Int32)
  | 0, _, _ => none
  | n14 + 1, z14_0, z14_1 => (grd (vp_in (((138 : Int32) + ((13 : Int32) * p1)) + (4 : Int32)) v0.1.1) (if (v0.1.2 (((138 : Int32) + ((13 : Int32) * p1)) + (4 : Int32)).toNatClampNeg) ≤ z14_1 then (some (z14_0, z14_1)) else (grd (vp_in ((((138 : Int32) + ((13 : Int32) * p1)) + (5 : Int32)) + z14_1) v0.1.1) (lt_ (z14_0 + (v0.1.2 ((((138 : Int32) + ((13 : Int32) * p1)) + (5 : Int32)) + z14_1).toNatClampNeg)) (fun x13 => (qX11_averageOf_14 v0 p1 n14 x13 (z14_1 + 1)))))))
noncomputable def sX11_averageOf (N : Nat) (v0 : V11) (p1 : Int32) : Option (Int32) := ((qX11_averageOf_14 v0 p1 N (0 : Int32) (0 : Int32)).bind (fun o9 => (grd (vp_in (((138 : Int32) + ((13 : Int32) * p1)) + (4 : Int32)) v0.1.1) (if (v0.1.2 (((138 : Int32) + ((13 : Int32) * p1)) + (4 : Int32)).toNatClampNeg) = 0 then (some (-1 : Int32)) else (grd (vp_in (((138 : Int32) + ((13 : Int32) * p1)) + (4 : Int32)) v0.1.1) (grd (¬ (v0.1.2 (((138 : Int32) + ((13 : Int32) * p1)) + (4 : Int32)).toNatClampNeg) = 0) (some (o9.1 / (v0.1.2 (((138 : Int32) + ((13 : Int32) * p1)) + (4 : Int32)).toNatClampNeg)))))))))
abbrev rX11_averageOf : Room := { frames := 0, cells := 0, slots := 0, locals := 0 }
set_option maxHeartbeats 4000000 in
set_option maxRecDepth 100000 in
theorem mX11_averageOf (l : Launch) (D : va_G) (cA cR : ClassId) (N : Nat) (a0 : A11) (v0 : V11) (p1 : Int32) (o : Int32) (hsp : sX11_averageOf N v0 p1 = some o) : MI l yX11_averageOf wsX11_averageOf rX11_averageOf D cA cR [.ref a0.1, .int p1] [w11 cA a0 v0] (some (.int o)) [w11 cA a0 v0] 0 0 := by
  have hsp : ((qX11_averageOf_14 v0 p1 N (0 : Int32) (0 : Int32)).bind (fun o9 => (grd (vp_in (((138 : Int32) + ((13 : Int32) * p1)) + (4 : Int32)) v0.1.1) (if (v0.1.2 (((138 : Int32) + ((13 : Int32) * p1)) + (4 : Int32)).toNatClampNeg) = 0 then (some (-1 : Int32)) else (grd (vp_in (((138 : Int32) + ((13 : Int32) * p1)) + (4 : Int32)) v0.1.1) (grd (¬ (v0.1.2 (((138 : Int32) + ((13 : Int32) * p1)) + (4 : Int32)).toNatClampNeg) = 0) (some (o9.1 / (v0.1.2 (((138 : Int32) + ((13 : Int32) * p1)) + (4 : Int32)).toNatClampNeg))))))))) = some o := hsp
  refine MI.ofW (cc := cX11_averageOf) (maxL := 5) (ret := (some .int)) (by decide) rfl (Nat.le_of_ble_eq_true rfl) ?_
  intro p e s m args below meth c A ls Q H locs hx hb hr hlk hml hown hnm hts hz hA hQ hw hl
  have hl : lv_has ls 5 [(0, .ref a0.1), (1, .int p1)] := hl
  have hw : ww A s.heap D [[(a0.1, .inr (11, [.ref a0.2.1, .ref a0.2.2.1, .int v0.2.2.1, .int v0.2.2.2.1, .ref a0.2.2.2.1, .int v0.2.2.2.2.2.1, .int v0.2.2.2.2.2.2.1, .ref a0.2.2.2.2.1, .int v0.2.2.2.2.2.2.2.2.1, .int v0.2.2.2.2.2.2.2.2.2.1, .int v0.2.2.2.2.2.2.2.2.2.2.1, .int v0.2.2.2.2.2.2.2.2.2.2.2.1, .ref a0.2.2.2.2.2, .int v0.2.2.2.2.2.2.2.2.2.2.2.2.2]))], [(a0.2.1, .inl (cA, v0.1.1, .inl v0.1.2))], [(a0.2.2.1, .inl (cA, v0.2.1.1, .inl v0.2.1.2))], [(a0.2.2.2.1, .inl (cA, v0.2.2.2.2.1.1, .inl v0.2.2.2.2.1.2))], [(a0.2.2.2.2.1, .inl (cA, v0.2.2.2.2.2.2.2.1.1, .inl v0.2.2.2.2.2.2.2.1.2))], [(a0.2.2.2.2.2, .inl (cA, v0.2.2.2.2.2.2.2.2.2.2.2.2.1.1, .inl v0.2.2.2.2.2.2.2.2.2.2.2.2.1.2))]] H locs := hw
  refine lv_sipush (v := 138) hx hb dX11_averageOf_0 (by decide) ?_
  refine lv_bipush (v := 13) hx hb dX11_averageOf_3 (by decide) ?_
  refine lv_iload_n hx hb dX11_averageOf_5 rfl (lv_at hl 1 rfl) ?_
  refine lv_imul hx hb dX11_averageOf_6 ?_
  refine lv_iadd hx hb dX11_averageOf_7 ?_
  refine lv_istore_n (lv' := [(2, .int ((138 : Int32) + ((13 : Int32) * p1))), (0, .ref a0.1), (1, .int p1)]) hx hb dX11_averageOf_8 rfl hl (by decide) rfl (fun ls hl => ?_)
  refine lv_iconst (v := 0) hx hb dX11_averageOf_9 (by decide) ?_
  refine lv_istore_n (lv' := [(3, .int (0 : Int32)), (2, .int ((138 : Int32) + ((13 : Int32) * p1))), (0, .ref a0.1), (1, .int p1)]) hx hb dX11_averageOf_10 rfl hl (by decide) rfl (fun ls hl => ?_)
  refine lv_iconst (v := 0) hx hb dX11_averageOf_11 (by decide) ?_
  refine lv_istore (lv' := [(4, .int (0 : Int32)), (3, .int (0 : Int32)), (2, .int ((138 : Int32) + ((13 : Int32) * p1))), (0, .ref a0.1), (1, .int p1)]) hx hb dX11_averageOf_12 hl (by decide) rfl (fun ls hl => ?_)
  have L14 : ∀ (n14 : Nat) (z14_0 : Int32) (z14_1 : Int32) (o9 : Int32 × Int32), qX11_averageOf_14 v0 p1 n14 z14_0 z14_1 = some o9 → ∀ (H : Heap) (locs : List Loc) (ls : Array Slot), ww A s.heap D [[(a0.1, .inr (11, [.ref a0.2.1, .ref a0.2.2.1, .int v0.2.2.1, .int v0.2.2.2.1, .ref a0.2.2.2.1, .int v0.2.2.2.2.2.1, .int v0.2.2.2.2.2.2.1, .ref a0.2.2.2.2.1, .int v0.2.2.2.2.2.2.2.2.1, .int v0.2.2.2.2.2.2.2.2.2.1, .int v0.2.2.2.2.2.2.2.2.2.2.1, .int v0.2.2.2.2.2.2.2.2.2.2.2.1, .ref a0.2.2.2.2.2, .int v0.2.2.2.2.2.2.2.2.2.2.2.2.2]))], [(a0.2.1, .inl (cA, v0.1.1, .inl v0.1.2))], [(a0.2.2.1, .inl (cA, v0.2.1.1, .inl v0.2.1.2))], [(a0.2.2.2.1, .inl (cA, v0.2.2.2.2.1.1, .inl v0.2.2.2.2.1.2))], [(a0.2.2.2.2.1, .inl (cA, v0.2.2.2.2.2.2.2.1.1, .inl v0.2.2.2.2.2.2.2.1.2))], [(a0.2.2.2.2.2, .inl (cA, v0.2.2.2.2.2.2.2.2.2.2.2.2.1.1, .inl v0.2.2.2.2.2.2.2.2.2.2.2.2.1.2))]] H locs → lv_has ls 5 [(0, .ref a0.1), (1, .int p1), (2, .int ((138 : Int32) + ((13 : Int32) * p1))), (3, .int z14_0), (4, .int z14_1)] → (∀ (y47 : Int32 × Int32), o9 = y47 → ∀ (H : Heap) (locs : List Loc) (ls : Array Slot), ww A s.heap D [[(a0.1, .inr (11, [.ref a0.2.1, .ref a0.2.2.1, .int v0.2.2.1, .int v0.2.2.2.1, .ref a0.2.2.2.1, .int v0.2.2.2.2.2.1, .int v0.2.2.2.2.2.2.1, .ref a0.2.2.2.2.1, .int v0.2.2.2.2.2.2.2.2.1, .int v0.2.2.2.2.2.2.2.2.2.1, .int v0.2.2.2.2.2.2.2.2.2.2.1, .int v0.2.2.2.2.2.2.2.2.2.2.2.1, .ref a0.2.2.2.2.2, .int v0.2.2.2.2.2.2.2.2.2.2.2.2.2]))], [(a0.2.1, .inl (cA, v0.1.1, .inl v0.1.2))], [(a0.2.2.1, .inl (cA, v0.2.1.1, .inl v0.2.1.2))], [(a0.2.2.2.1, .inl (cA, v0.2.2.2.2.1.1, .inl v0.2.2.2.2.1.2))], [(a0.2.2.2.2.1, .inl (cA, v0.2.2.2.2.2.2.2.1.1, .inl v0.2.2.2.2.2.2.2.1.2))], [(a0.2.2.2.2.2, .inl (cA, v0.2.2.2.2.2.2.2.2.2.2.2.2.1.1, .inl v0.2.2.2.2.2.2.2.2.2.2.2.2.1.2))]] H locs → lv_has ls 5 [(0, .ref a0.1), (1, .int p1), (2, .int ((138 : Int32) + ((13 : Int32) * p1))), (3, .int y47.1), (4, .int y47.2)] → W p l e rX11_averageOf s m args below meth c H locs 0 0 Q (F0 m 47 ls [])) → W p l e rX11_averageOf s m args below meth c H locs 0 0 Q (F0 m 14 ls []) := by
    intro n14
    induction n14 with
    | zero => intro z14_0 z14_1 o9 hsp; cases hsp
    | succ n14 ih14 =>
      intro z14_0 z14_1 o9 hsp H locs ls hw hl kx14_47
      have hsp : (grd (vp_in (((138 : Int32) + ((13 : Int32) * p1)) + (4 : Int32)) v0.1.1) (if (v0.1.2 (((138 : Int32) + ((13 : Int32) * p1)) + (4 : Int32)).toNatClampNeg) ≤ z14_1 then (some (z14_0, z14_1)) else (grd (vp_in ((((138 : Int32) + ((13 : Int32) * p1)) + (5 : Int32)) + z14_1) v0.1.1) (lt_ (z14_0 + (v0.1.2 ((((138 : Int32) + ((13 : Int32) * p1)) + (5 : Int32)) + z14_1).toNatClampNeg)) (fun x13 => (qX11_averageOf_14 v0 p1 n14 x13 (z14_1 + 1))))))) = some o9 := hsp
      refine lv_iload hx hb dX11_averageOf_14 (lv_at hl 4 rfl) ?_
      refine lv_aload_n hx hb dX11_averageOf_16 rfl (lv_at hl 0 rfl) ?_
      refine k_get (ci := 11) (v := .ref a0.2.1) (C := RX11) (T := TX11) (N := 14) hx hb hts hown hz hw (by decide +kernel) 0 rfl rfl 0 (by decide) (hts (.fieldLink RX11 7 "OccupancyMonitorModel" "all" "[I") (by decide +kernel)) (fun _ h9 => h9) rfl dX11_averageOf_17 ?_
      refine lv_iload_n hx hb dX11_averageOf_20 rfl (lv_at hl 2 rfl) ?_
      refine lv_iconst (v := 4) hx hb dX11_averageOf_21 (by decide) ?_
      refine lv_iadd hx hb dX11_averageOf_22 ?_
      obtain ⟨g10, hsp⟩ := grd_of hsp
      refine k_iald hx hb hz hw 1 rfl g10 dX11_averageOf_23 ?_
      refine lv_icmp_ge (tgt := 47) hx hb dX11_averageOf_24 (by decide) (fun c11 => ?_) (fun c11 => ?_)
      · have hsp := ift c11 hsp
        have hsp := Option.some.inj hsp
        subst hsp
        exact kx14_47 _ rfl _ _ _ hw (lv_sub hl [0, 1, 2, 3, 4] rfl)
      · have hsp := iff_ c11 hsp
        refine lv_iload_n hx hb dX11_averageOf_27 rfl (lv_at hl 3 rfl) ?_
        refine lv_aload_n hx hb dX11_averageOf_28 rfl (lv_at hl 0 rfl) ?_
        refine k_get (ci := 11) (v := .ref a0.2.1) (C := RX11) (T := TX11) (N := 14) hx hb hts hown hz hw (by decide +kernel) 0 rfl rfl 0 (by decide) (hts (.fieldLink RX11 7 "OccupancyMonitorModel" "all" "[I") (by decide +kernel)) (fun _ h9 => h9) rfl dX11_averageOf_29 ?_
        refine lv_iload_n hx hb dX11_averageOf_32 rfl (lv_at hl 2 rfl) ?_
        refine lv_iconst (v := 5) hx hb dX11_averageOf_33 (by decide) ?_
        refine lv_iadd hx hb dX11_averageOf_34 ?_
        refine lv_iload hx hb dX11_averageOf_35 (lv_at hl 4 rfl) ?_
        refine lv_iadd hx hb dX11_averageOf_37 ?_
        obtain ⟨g12, hsp⟩ := grd_of hsp
        refine k_iald hx hb hz hw 1 rfl g12 dX11_averageOf_38 ?_
        refine lv_iadd hx hb dX11_averageOf_39 ?_
        refine lv_topi (fun x13 ex13 => ?_)
        have hsp := lt_of hsp ex13
        refine lv_istore_n (lv' := [(3, .int x13), (0, .ref a0.1), (1, .int p1), (2, .int ((138 : Int32) + ((13 : Int32) * p1))), (4, .int z14_1)]) hx hb dX11_averageOf_40 rfl hl (by decide) rfl (fun ls hl => ?_)
        refine lv_iinc (v := (z14_1 + 1)) (lv' := [(4, .int (z14_1 + 1)), (3, .int x13), (0, .ref a0.1), (1, .int p1), (2, .int ((138 : Int32) + ((13 : Int32) * p1)))]) hx hb dX11_averageOf_41 hl (k := 4) rfl rfl (by decide) rfl (fun ls hl => ?_)
        refine lv_goto (tgt := 14) hx hb dX11_averageOf_44 (by decide) ?_
        exact ih14 x13 (z14_1 + 1) _ hsp _ _ _ hw (lv_sub hl [2, 3, 4, 1, 0] rfl) kx14_47
  obtain ⟨o9, hso9, hsp⟩ := bnd_of hsp
  refine L14 N (0 : Int32) (0 : Int32) _ hso9 _ _ _ hw (lv_sub hl [3, 4, 2, 1, 0] rfl) (fun y47 hy47 H locs ls hw hl => ?_)
  cases hy47
  refine lv_aload_n hx hb dX11_averageOf_47 rfl (lv_at hl 0 rfl) ?_
  refine k_get (ci := 11) (v := .ref a0.2.1) (C := RX11) (T := TX11) (N := 14) hx hb hts hown hz hw (by decide +kernel) 0 rfl rfl 0 (by decide) (hts (.fieldLink RX11 7 "OccupancyMonitorModel" "all" "[I") (by decide +kernel)) (fun _ h9 => h9) rfl dX11_averageOf_48 ?_
  refine lv_iload_n hx hb dX11_averageOf_51 rfl (lv_at hl 2 rfl) ?_
  refine lv_iconst (v := 4) hx hb dX11_averageOf_52 (by decide) ?_
  refine lv_iadd hx hb dX11_averageOf_53 ?_
  obtain ⟨g14, hsp⟩ := grd_of hsp
  refine k_iald hx hb hz hw 1 rfl g14 dX11_averageOf_54 ?_
  refine lv_if_ne (tgt := 62) hx hb dX11_averageOf_55 (by decide) (fun c15 => ?_) (fun c15 => ?_)
  · have hsp := iff_ c15 hsp
    refine lv_iload_n hx hb dX11_averageOf_62 rfl (lv_at hl 3 rfl) ?_
    refine lv_aload_n hx hb dX11_averageOf_63 rfl (lv_at hl 0 rfl) ?_
    refine k_get (ci := 11) (v := .ref a0.2.1) (C := RX11) (T := TX11) (N := 14) hx hb hts hown hz hw (by decide +kernel) 0 rfl rfl 0 (by decide) (hts (.fieldLink RX11 7 "OccupancyMonitorModel" "all" "[I") (by decide +kernel)) (fun _ h9 => h9) rfl dX11_averageOf_64 ?_
    refine lv_iload_n hx hb dX11_averageOf_67 rfl (lv_at hl 2 rfl) ?_
    refine lv_iconst (v := 4) hx hb dX11_averageOf_68 (by decide) ?_
    refine lv_iadd hx hb dX11_averageOf_69 ?_
    obtain ⟨g16, hsp⟩ := grd_of hsp
    refine k_iald hx hb hz hw 1 rfl g16 dX11_averageOf_70 ?_
    obtain ⟨g17, hsp⟩ := grd_of hsp
    refine lv_idiv hx hb dX11_averageOf_71 g17 ?_
    have hsp := Option.some.inj hsp
    subst hsp
    have hw : ww A s.heap D [w11 cA a0 v0] H locs := hw
    subst hQ
    exact k_iret hx hb hr hlk hw dX11_averageOf_72
  · have hsp := ift c15 hsp
    refine lv_iconst (v := -1) hx hb dX11_averageOf_58 (by decide) ?_
    refine lv_goto (tgt := 72) hx hb dX11_averageOf_59 (by decide) ?_
    have hsp := Option.some.inj hsp
    subst hsp
    have hw : ww A s.heap D [w11 cA a0 v0] H locs := hw
    subst hQ
    exact k_iret hx hb hr hlk hw dX11_averageOf_72
noncomputable def sX11_average (N : Nat) (v0 : V11) (p1 : Int32) : Option (Int32 × V11) := ((sX11_isChannel p1).bind (fun o1 => ((sX11_goes v0 o1 (1 : Int32)).bind (fun o2 => (if o2.1 = 0 then (some ((0 : Int32), o2.2)) else ((sX11_averageOf N o2.2 p1).bind (fun o4 => (some (o4, o2.2)))))))))
abbrev rX11_average : Room := { frames := 2, cells := 0, slots := 0, locals := 45 }
set_option maxHeartbeats 4000000 in
set_option maxRecDepth 100000 in
theorem mX11_average (l : Launch) (D : va_G) (cA cR : ClassId) (N : Nat) (a0 : A11) (v0 : V11) (p1 : Int32) (o : Int32 × V11) (hsp : sX11_average N v0 p1 = some o) : MI l yX11_average wsX11_average rX11_average D cA cR [.ref a0.1, .int p1] [w11 cA a0 v0] (some (.int o.1)) [w11 cA a0 o.2] 0 0 := by
  have hsp : ((sX11_isChannel p1).bind (fun o1 => ((sX11_goes v0 o1 (1 : Int32)).bind (fun o2 => (if o2.1 = 0 then (some ((0 : Int32), o2.2)) else ((sX11_averageOf N o2.2 p1).bind (fun o4 => (some (o4, o2.2))))))))) = some o := hsp
  refine MI.ofW (cc := cX11_average) (maxL := 2) (ret := (some .int)) (by decide) rfl (Nat.le_of_ble_eq_true rfl) ?_
  intro p e s m args below meth c A ls Q H locs hx hb hr hlk hml hown hnm hts hz hA hQ hw hl
  have hl : lv_has ls 2 [(0, .ref a0.1), (1, .int p1)] := hl
  have hw : ww A s.heap D [w11 cA a0 v0] H locs := hw
  refine lv_aload_n hx hb dX11_average_0 rfl (lv_at hl 0 rfl) ?_
  refine lv_iload_n hx hb dX11_average_1 rfl (lv_at hl 1 rfl) ?_
  obtain ⟨o1, hso1, hsp⟩ := bnd_of hsp
  refine k_callS (nA := 1) (As := [.int p1]) (cs := []) (rs := [w11 cA a0 v0]) (cs1 := []) (bs1 := [w11 cA a0 v0]) (rest := [.ref a0.1]) (st1 := [.int o1, .ref a0.1]) ⟨hx, hb, hml, hown, hts⟩ hz hw hA (mX11_isChannel l D cA cR p1 o1 hso1) gX11_average_X11_isChannel rfl rfl rfl (by decide +kernel) rfl ⟨Nat.le_of_ble_eq_true rfl, Nat.le_of_ble_eq_true rfl⟩ hl.1 rfl (Nat.le_of_ble_eq_true rfl) dX11_average_2 ⟨Nat.le_of_ble_eq_true rfl, Nat.le_of_ble_eq_true rfl⟩ [] [0] [0] rfl rfl rfl rfl rfl rfl (fun H locs hw => ?_)
  refine lv_iconst (v := 1) hx hb dX11_average_5 (by decide) ?_
  obtain ⟨o2, hso2, hsp⟩ := bnd_of hsp
  refine k_callV (ci := 11) (C := RX11) (T := TX11) (N := 14) (nA := 2) (As := [.int o1, .int (1 : Int32)]) (cs := [w11 cA a0 v0]) (rs := []) (cs1 := [w11 cA a0 o2.2]) (bs1 := [w11 cA a0 o2.2]) (rest := []) (st1 := [.int o2.1]) ⟨hx, hb, hml, hown, hts⟩ hz hw hA (mX11_goes l D cA cR a0 v0 o1 (1 : Int32) o2 hso2) gX11_average_X11_goes rfl rfl rfl (by decide +kernel) rfl ⟨Nat.le_of_ble_eq_true rfl, Nat.le_of_ble_eq_true rfl⟩ rfl rfl hl.1 rfl (Nat.le_of_ble_eq_true rfl) dX11_average_6 ⟨Nat.le_of_ble_eq_true rfl, Nat.le_of_ble_eq_true rfl⟩ [0] [] [0] rfl rfl rfl rfl rfl rfl (fun H locs hw => ?_)
  refine lv_if_eq (tgt := 20) hx hb dX11_average_9 (by decide) (fun c3 => ?_) (fun c3 => ?_)
  · have hsp := ift c3 hsp
    refine lv_iconst (v := 0) hx hb dX11_average_20 (by decide) ?_
    have hsp := Option.some.inj hsp
    subst hsp
    have hw : ww A s.heap D [w11 cA a0 o2.2] H locs := hw
    subst hQ
    exact k_iret hx hb hr hlk hw dX11_average_21
  · have hsp := iff_ c3 hsp
    refine lv_aload_n hx hb dX11_average_12 rfl (lv_at hl 0 rfl) ?_
    refine lv_iload_n hx hb dX11_average_13 rfl (lv_at hl 1 rfl) ?_
    obtain ⟨o4, hso4, hsp⟩ := bnd_of hsp
    refine k_callV (ci := 11) (C := RX11) (T := TX11) (N := 14) (nA := 1) (As := [.int p1]) (cs := [w11 cA a0 o2.2]) (rs := []) (cs1 := [w11 cA a0 o2.2]) (bs1 := [w11 cA a0 o2.2]) (rest := []) (st1 := [.int o4]) ⟨hx, hb, hml, hown, hts⟩ hz hw hA (mX11_averageOf l D cA cR N a0 o2.2 p1 o4 hso4) gX11_average_X11_averageOf rfl rfl rfl (by decide +kernel) rfl ⟨Nat.le_of_ble_eq_true rfl, Nat.le_of_ble_eq_true rfl⟩ rfl rfl hl.1 rfl (Nat.le_of_ble_eq_true rfl) dX11_average_14 ⟨Nat.le_of_ble_eq_true rfl, Nat.le_of_ble_eq_true rfl⟩ [0] [] [0] rfl rfl rfl rfl rfl rfl (fun H locs hw => ?_)
    refine lv_goto (tgt := 21) hx hb dX11_average_17 (by decide) ?_
    have hsp := Option.some.inj hsp
    subst hsp
    have hw : ww A s.heap D [w11 cA a0 o2.2] H locs := hw
    subst hQ
    exact k_iret hx hb hr hlk hw dX11_average_21
noncomputable def sX11_occupancy (v0 : V11) (p1 : Int32) : Option (UInt64 × V11) := ((sX11_isChannel p1).bind (fun o1 => ((sX11_goes v0 o1 (1 : Int32)).bind (fun o2 => (if o2.1 = 0 then (some (FP.dconst0, o2.2)) else (grd (vp_in ((138 : Int32) + ((13 : Int32) * p1)) o2.2.1.1) (if (o2.2.1.2 ((138 : Int32) + ((13 : Int32) * p1)).toNatClampNeg) = 0 then (some (FP.dconst0, o2.2)) else (grd (vp_in (((138 : Int32) + ((13 : Int32) * p1)) + (1 : Int32)) o2.2.1.1) (grd (vp_in ((138 : Int32) + ((13 : Int32) * p1)) o2.2.1.1) (grd (vf_n64 (FP.ddiv (FP.i2d (o2.2.1.2 (((138 : Int32) + ((13 : Int32) * p1)) + (1 : Int32)).toNatClampNeg)) (FP.i2d (o2.2.1.2 ((138 : Int32) + ((13 : Int32) * p1)).toNatClampNeg)))) (some ((FP.ddiv (FP.i2d (o2.2.1.2 (((138 : Int32) + ((13 : Int32) * p1)) + (1 : Int32)).toNatClampNeg)) (FP.i2d (o2.2.1.2 ((138 : Int32) + ((13 : Int32) * p1)).toNatClampNeg))), o2.2))))))))))))
abbrev rX11_occupancy : Room := { frames := 2, cells := 0, slots := 0, locals := 45 }
set_option maxHeartbeats 4000000 in
set_option maxRecDepth 100000 in
theorem mX11_occupancy (l : Launch) (D : va_G) (cA cR : ClassId) (a0 : A11) (v0 : V11) (p1 : Int32) (o : UInt64 × V11) (hsp : sX11_occupancy v0 p1 = some o) : MI l yX11_occupancy wsX11_occupancy rX11_occupancy D cA cR [.ref a0.1, .int p1] [w11 cA a0 v0] (some (.double o.1)) [w11 cA a0 o.2] 0 0 := by
  have hsp : ((sX11_isChannel p1).bind (fun o1 => ((sX11_goes v0 o1 (1 : Int32)).bind (fun o2 => (if o2.1 = 0 then (some (FP.dconst0, o2.2)) else (grd (vp_in ((138 : Int32) + ((13 : Int32) * p1)) o2.2.1.1) (if (o2.2.1.2 ((138 : Int32) + ((13 : Int32) * p1)).toNatClampNeg) = 0 then (some (FP.dconst0, o2.2)) else (grd (vp_in (((138 : Int32) + ((13 : Int32) * p1)) + (1 : Int32)) o2.2.1.1) (grd (vp_in ((138 : Int32) + ((13 : Int32) * p1)) o2.2.1.1) (grd (vf_n64 (FP.ddiv (FP.i2d (o2.2.1.2 (((138 : Int32) + ((13 : Int32) * p1)) + (1 : Int32)).toNatClampNeg)) (FP.i2d (o2.2.1.2 ((138 : Int32) + ((13 : Int32) * p1)).toNatClampNeg)))) (some ((FP.ddiv (FP.i2d (o2.2.1.2 (((138 : Int32) + ((13 : Int32) * p1)) + (1 : Int32)).toNatClampNeg)) (FP.i2d (o2.2.1.2 ((138 : Int32) + ((13 : Int32) * p1)).toNatClampNeg))), o2.2)))))))))))) = some o := hsp
  refine MI.ofW (cc := cX11_occupancy) (maxL := 6) (ret := (some .double)) (by decide) rfl (Nat.le_of_ble_eq_true rfl) ?_
  intro p e s m args below meth c A ls Q H locs hx hb hr hlk hml hown hnm hts hz hA hQ hw hl
  have hl : lv_has ls 6 [(0, .ref a0.1), (1, .int p1)] := hl
  have hw : ww A s.heap D [[(a0.1, .inr (11, [.ref a0.2.1, .ref a0.2.2.1, .int v0.2.2.1, .int v0.2.2.2.1, .ref a0.2.2.2.1, .int v0.2.2.2.2.2.1, .int v0.2.2.2.2.2.2.1, .ref a0.2.2.2.2.1, .int v0.2.2.2.2.2.2.2.2.1, .int v0.2.2.2.2.2.2.2.2.2.1, .int v0.2.2.2.2.2.2.2.2.2.2.1, .int v0.2.2.2.2.2.2.2.2.2.2.2.1, .ref a0.2.2.2.2.2, .int v0.2.2.2.2.2.2.2.2.2.2.2.2.2]))], [(a0.2.1, .inl (cA, v0.1.1, .inl v0.1.2))], [(a0.2.2.1, .inl (cA, v0.2.1.1, .inl v0.2.1.2))], [(a0.2.2.2.1, .inl (cA, v0.2.2.2.2.1.1, .inl v0.2.2.2.2.1.2))], [(a0.2.2.2.2.1, .inl (cA, v0.2.2.2.2.2.2.2.1.1, .inl v0.2.2.2.2.2.2.2.1.2))], [(a0.2.2.2.2.2, .inl (cA, v0.2.2.2.2.2.2.2.2.2.2.2.2.1.1, .inl v0.2.2.2.2.2.2.2.2.2.2.2.2.1.2))]] H locs := hw
  refine lv_aload_n hx hb dX11_occupancy_0 rfl (lv_at hl 0 rfl) ?_
  refine lv_iload_n hx hb dX11_occupancy_1 rfl (lv_at hl 1 rfl) ?_
  obtain ⟨o1, hso1, hsp⟩ := bnd_of hsp
  refine k_callS (nA := 1) (As := [.int p1]) (cs := []) (rs := [[(a0.1, .inr (11, [.ref a0.2.1, .ref a0.2.2.1, .int v0.2.2.1, .int v0.2.2.2.1, .ref a0.2.2.2.1, .int v0.2.2.2.2.2.1, .int v0.2.2.2.2.2.2.1, .ref a0.2.2.2.2.1, .int v0.2.2.2.2.2.2.2.2.1, .int v0.2.2.2.2.2.2.2.2.2.1, .int v0.2.2.2.2.2.2.2.2.2.2.1, .int v0.2.2.2.2.2.2.2.2.2.2.2.1, .ref a0.2.2.2.2.2, .int v0.2.2.2.2.2.2.2.2.2.2.2.2.2]))], [(a0.2.1, .inl (cA, v0.1.1, .inl v0.1.2))], [(a0.2.2.1, .inl (cA, v0.2.1.1, .inl v0.2.1.2))], [(a0.2.2.2.1, .inl (cA, v0.2.2.2.2.1.1, .inl v0.2.2.2.2.1.2))], [(a0.2.2.2.2.1, .inl (cA, v0.2.2.2.2.2.2.2.1.1, .inl v0.2.2.2.2.2.2.2.1.2))], [(a0.2.2.2.2.2, .inl (cA, v0.2.2.2.2.2.2.2.2.2.2.2.2.1.1, .inl v0.2.2.2.2.2.2.2.2.2.2.2.2.1.2))]]) (cs1 := []) (bs1 := [[(a0.1, .inr (11, [.ref a0.2.1, .ref a0.2.2.1, .int v0.2.2.1, .int v0.2.2.2.1, .ref a0.2.2.2.1, .int v0.2.2.2.2.2.1, .int v0.2.2.2.2.2.2.1, .ref a0.2.2.2.2.1, .int v0.2.2.2.2.2.2.2.2.1, .int v0.2.2.2.2.2.2.2.2.2.1, .int v0.2.2.2.2.2.2.2.2.2.2.1, .int v0.2.2.2.2.2.2.2.2.2.2.2.1, .ref a0.2.2.2.2.2, .int v0.2.2.2.2.2.2.2.2.2.2.2.2.2]))], [(a0.2.1, .inl (cA, v0.1.1, .inl v0.1.2))], [(a0.2.2.1, .inl (cA, v0.2.1.1, .inl v0.2.1.2))], [(a0.2.2.2.1, .inl (cA, v0.2.2.2.2.1.1, .inl v0.2.2.2.2.1.2))], [(a0.2.2.2.2.1, .inl (cA, v0.2.2.2.2.2.2.2.1.1, .inl v0.2.2.2.2.2.2.2.1.2))], [(a0.2.2.2.2.2, .inl (cA, v0.2.2.2.2.2.2.2.2.2.2.2.2.1.1, .inl v0.2.2.2.2.2.2.2.2.2.2.2.2.1.2))]]) (rest := [.ref a0.1]) (st1 := [.int o1, .ref a0.1]) ⟨hx, hb, hml, hown, hts⟩ hz hw hA (mX11_isChannel l D cA cR p1 o1 hso1) gX11_occupancy_X11_isChannel rfl rfl rfl (by decide +kernel) rfl ⟨Nat.le_of_ble_eq_true rfl, Nat.le_of_ble_eq_true rfl⟩ hl.1 rfl (Nat.le_of_ble_eq_true rfl) dX11_occupancy_2 ⟨Nat.le_of_ble_eq_true rfl, Nat.le_of_ble_eq_true rfl⟩ [] [0, 1, 2, 3, 4, 5] [0, 1, 2, 3, 4, 5] rfl rfl rfl rfl rfl rfl (fun H locs hw => ?_)
  refine lv_iconst (v := 1) hx hb dX11_occupancy_5 (by decide) ?_
  have hw : ww A s.heap D [w11 cA a0 v0] H locs := hw
  obtain ⟨o2, hso2, hsp⟩ := bnd_of hsp
  refine k_callV (ci := 11) (C := RX11) (T := TX11) (N := 14) (nA := 2) (As := [.int o1, .int (1 : Int32)]) (cs := [w11 cA a0 v0]) (rs := []) (cs1 := [w11 cA a0 o2.2]) (bs1 := [w11 cA a0 o2.2]) (rest := []) (st1 := [.int o2.1]) ⟨hx, hb, hml, hown, hts⟩ hz hw hA (mX11_goes l D cA cR a0 v0 o1 (1 : Int32) o2 hso2) gX11_occupancy_X11_goes rfl rfl rfl (by decide +kernel) rfl ⟨Nat.le_of_ble_eq_true rfl, Nat.le_of_ble_eq_true rfl⟩ rfl rfl hl.1 rfl (Nat.le_of_ble_eq_true rfl) dX11_occupancy_6 ⟨Nat.le_of_ble_eq_true rfl, Nat.le_of_ble_eq_true rfl⟩ [0] [] [0] rfl rfl rfl rfl rfl rfl (fun H locs hw => ?_)
  have hw : ww A s.heap D [[(a0.1, .inr (11, [.ref a0.2.1, .ref a0.2.2.1, .int o2.2.2.2.1, .int o2.2.2.2.2.1, .ref a0.2.2.2.1, .int o2.2.2.2.2.2.2.1, .int o2.2.2.2.2.2.2.2.1, .ref a0.2.2.2.2.1, .int o2.2.2.2.2.2.2.2.2.2.1, .int o2.2.2.2.2.2.2.2.2.2.2.1, .int o2.2.2.2.2.2.2.2.2.2.2.2.1, .int o2.2.2.2.2.2.2.2.2.2.2.2.2.1, .ref a0.2.2.2.2.2, .int o2.2.2.2.2.2.2.2.2.2.2.2.2.2.2]))], [(a0.2.1, .inl (cA, o2.2.1.1, .inl o2.2.1.2))], [(a0.2.2.1, .inl (cA, o2.2.2.1.1, .inl o2.2.2.1.2))], [(a0.2.2.2.1, .inl (cA, o2.2.2.2.2.2.1.1, .inl o2.2.2.2.2.2.1.2))], [(a0.2.2.2.2.1, .inl (cA, o2.2.2.2.2.2.2.2.2.1.1, .inl o2.2.2.2.2.2.2.2.2.1.2))], [(a0.2.2.2.2.2, .inl (cA, o2.2.2.2.2.2.2.2.2.2.2.2.2.2.1.1, .inl o2.2.2.2.2.2.2.2.2.2.2.2.2.2.1.2))]] H locs := hw
  refine lv_if_eq (tgt := 28) hx hb dX11_occupancy_9 (by decide) (fun c3 => ?_) (fun c3 => ?_)
  · have hsp := ift c3 hsp
    refine lv_dconst0 hx hb dX11_occupancy_28 ?_
    have hsp := Option.some.inj hsp
    subst hsp
    have hw : ww A s.heap D [w11 cA a0 o2.2] H locs := hw
    subst hQ
    exact k_dret hx hb hr hlk hw dX11_occupancy_29
  · have hsp := iff_ c3 hsp
    refine lv_aload_n hx hb dX11_occupancy_12 rfl (lv_at hl 0 rfl) ?_
    refine k_get (ci := 11) (v := .ref a0.2.1) (C := RX11) (T := TX11) (N := 14) hx hb hts hown hz hw (by decide +kernel) 0 rfl rfl 0 (by decide) (hts (.fieldLink RX11 7 "OccupancyMonitorModel" "all" "[I") (by decide +kernel)) (fun _ h9 => h9) rfl dX11_occupancy_13 ?_
    refine lv_sipush (v := 138) hx hb dX11_occupancy_16 (by decide) ?_
    refine lv_bipush (v := 13) hx hb dX11_occupancy_19 (by decide) ?_
    refine lv_iload_n hx hb dX11_occupancy_21 rfl (lv_at hl 1 rfl) ?_
    refine lv_imul hx hb dX11_occupancy_22 ?_
    refine lv_iadd hx hb dX11_occupancy_23 ?_
    obtain ⟨g4, hsp⟩ := grd_of hsp
    refine k_iald hx hb hz hw 1 rfl g4 dX11_occupancy_24 ?_
    refine lv_if_ne (tgt := 30) hx hb dX11_occupancy_25 (by decide) (fun c5 => ?_) (fun c5 => ?_)
    · have hsp := iff_ c5 hsp
      refine lv_aload_n hx hb dX11_occupancy_30 rfl (lv_at hl 0 rfl) ?_
      refine k_get (ci := 11) (v := .ref a0.2.1) (C := RX11) (T := TX11) (N := 14) hx hb hts hown hz hw (by decide +kernel) 0 rfl rfl 0 (by decide) (hts (.fieldLink RX11 7 "OccupancyMonitorModel" "all" "[I") (by decide +kernel)) (fun _ h9 => h9) rfl dX11_occupancy_31 ?_
      refine lv_sipush (v := 138) hx hb dX11_occupancy_34 (by decide) ?_
      refine lv_bipush (v := 13) hx hb dX11_occupancy_37 (by decide) ?_
      refine lv_iload_n hx hb dX11_occupancy_39 rfl (lv_at hl 1 rfl) ?_
      refine lv_imul hx hb dX11_occupancy_40 ?_
      refine lv_iadd hx hb dX11_occupancy_41 ?_
      refine lv_iconst (v := 1) hx hb dX11_occupancy_42 (by decide) ?_
      refine lv_iadd hx hb dX11_occupancy_43 ?_
      obtain ⟨g6, hsp⟩ := grd_of hsp
      refine k_iald hx hb hz hw 1 rfl g6 dX11_occupancy_44 ?_
      refine lv_i2d hx hb dX11_occupancy_45 ?_
      refine lv_dstore_n (lv' := [(2, .double (FP.i2d (o2.2.1.2 (((138 : Int32) + ((13 : Int32) * p1)) + (1 : Int32)).toNatClampNeg))), (0, .ref a0.1), (1, .int p1)]) hx hb dX11_occupancy_46 rfl hl (by decide) rfl (fun ls hl => ?_)
      refine lv_aload_n hx hb dX11_occupancy_47 rfl (lv_at hl 1 rfl) ?_
      refine k_get (ci := 11) (v := .ref a0.2.1) (C := RX11) (T := TX11) (N := 14) hx hb hts hown hz hw (by decide +kernel) 0 rfl rfl 0 (by decide) (hts (.fieldLink RX11 7 "OccupancyMonitorModel" "all" "[I") (by decide +kernel)) (fun _ h9 => h9) rfl dX11_occupancy_48 ?_
      refine lv_sipush (v := 138) hx hb dX11_occupancy_51 (by decide) ?_
      refine lv_bipush (v := 13) hx hb dX11_occupancy_54 (by decide) ?_
      refine lv_iload_n hx hb dX11_occupancy_56 rfl (lv_at hl 2 rfl) ?_
      refine lv_imul hx hb dX11_occupancy_57 ?_
      refine lv_iadd hx hb dX11_occupancy_58 ?_
      obtain ⟨g7, hsp⟩ := grd_of hsp
      refine k_iald hx hb hz hw 1 rfl g7 dX11_occupancy_59 ?_
      refine lv_i2d hx hb dX11_occupancy_60 ?_
      refine lv_dstore (lv' := [(4, .double (FP.i2d (o2.2.1.2 ((138 : Int32) + ((13 : Int32) * p1)).toNatClampNeg))), (2, .double (FP.i2d (o2.2.1.2 (((138 : Int32) + ((13 : Int32) * p1)) + (1 : Int32)).toNatClampNeg))), (0, .ref a0.1), (1, .int p1)]) hx hb dX11_occupancy_61 hl (by decide) rfl (fun ls hl => ?_)
      refine lv_dload_n hx hb dX11_occupancy_63 rfl (lv_at hl 1 rfl) ?_
      refine lv_dload hx hb dX11_occupancy_64 (lv_at hl 0 rfl) ?_
      obtain ⟨g8, hsp⟩ := grd_of hsp
      refine lv_ddiv hx hb dX11_occupancy_66 g8 ?_
      have hsp := Option.some.inj hsp
      subst hsp
      have hw : ww A s.heap D [w11 cA a0 o2.2] H locs := hw
      subst hQ
      exact k_dret hx hb hr hlk hw dX11_occupancy_67
    · have hsp := ift c5 hsp
      refine lv_dconst0 hx hb dX11_occupancy_28 ?_
      have hsp := Option.some.inj hsp
      subst hsp
      have hw : ww A s.heap D [w11 cA a0 o2.2] H locs := hw
      subst hQ
      exact k_dret hx hb hr hlk hw dX11_occupancy_29
noncomputable def sX11_reset (N : Nat) (v0 : V11) : Option (Int32 × V11) := ((sX11_save N (v0.1, v0.2.1, v0.2.2.1, (0 : Int32), v0.2.2.2.2.1, v0.2.2.2.2.2.1, v0.2.2.2.2.2.2.1, v0.2.2.2.2.2.2.2.1, v0.2.2.2.2.2.2.2.2.1, v0.2.2.2.2.2.2.2.2.2.1, v0.2.2.2.2.2.2.2.2.2.2.1, v0.2.2.2.2.2.2.2.2.2.2.2.1, v0.2.2.2.2.2.2.2.2.2.2.2.2.1, v0.2.2.2.2.2.2.2.2.2.2.2.2.2)).bind (fun o1 => (grd (vp_in (9 : Int32) o1.1.1) ((sX11_clears N o1).bind (fun o3 => (some ((o1.1.2 (9 : Int32).toNatClampNeg), o3)))))))
abbrev rX11_reset : Room := { frames := 1, cells := 0, slots := 0, locals := 21 }
set_option maxHeartbeats 4000000 in
set_option maxRecDepth 100000 in
theorem mX11_reset (l : Launch) (D : va_G) (cA cR : ClassId) (N : Nat) (a0 : A11) (v0 : V11) (o : Int32 × V11) (hsp : sX11_reset N v0 = some o) : MI l yX11_reset wsX11_reset rX11_reset D cA cR [.ref a0.1] [w11 cA a0 v0] (some (.int o.1)) [w11 cA a0 o.2] 0 0 := by
  have hsp : ((sX11_save N (v0.1, v0.2.1, v0.2.2.1, (0 : Int32), v0.2.2.2.2.1, v0.2.2.2.2.2.1, v0.2.2.2.2.2.2.1, v0.2.2.2.2.2.2.2.1, v0.2.2.2.2.2.2.2.2.1, v0.2.2.2.2.2.2.2.2.2.1, v0.2.2.2.2.2.2.2.2.2.2.1, v0.2.2.2.2.2.2.2.2.2.2.2.1, v0.2.2.2.2.2.2.2.2.2.2.2.2.1, v0.2.2.2.2.2.2.2.2.2.2.2.2.2)).bind (fun o1 => (grd (vp_in (9 : Int32) o1.1.1) ((sX11_clears N o1).bind (fun o3 => (some ((o1.1.2 (9 : Int32).toNatClampNeg), o3))))))) = some o := hsp
  refine MI.ofW (cc := cX11_reset) (maxL := 2) (ret := (some .int)) (by decide) rfl (Nat.le_of_ble_eq_true rfl) ?_
  intro p e s m args below meth c A ls Q H locs hx hb hr hlk hml hown hnm hts hz hA hQ hw hl
  have hl : lv_has ls 2 [(0, .ref a0.1)] := hl
  have hw : ww A s.heap D [[(a0.1, .inr (11, [.ref a0.2.1, .ref a0.2.2.1, .int v0.2.2.1, .int v0.2.2.2.1, .ref a0.2.2.2.1, .int v0.2.2.2.2.2.1, .int v0.2.2.2.2.2.2.1, .ref a0.2.2.2.2.1, .int v0.2.2.2.2.2.2.2.2.1, .int v0.2.2.2.2.2.2.2.2.2.1, .int v0.2.2.2.2.2.2.2.2.2.2.1, .int v0.2.2.2.2.2.2.2.2.2.2.2.1, .ref a0.2.2.2.2.2, .int v0.2.2.2.2.2.2.2.2.2.2.2.2.2]))], [(a0.2.1, .inl (cA, v0.1.1, .inl v0.1.2))], [(a0.2.2.1, .inl (cA, v0.2.1.1, .inl v0.2.1.2))], [(a0.2.2.2.1, .inl (cA, v0.2.2.2.2.1.1, .inl v0.2.2.2.2.1.2))], [(a0.2.2.2.2.1, .inl (cA, v0.2.2.2.2.2.2.2.1.1, .inl v0.2.2.2.2.2.2.2.1.2))], [(a0.2.2.2.2.2, .inl (cA, v0.2.2.2.2.2.2.2.2.2.2.2.2.1.1, .inl v0.2.2.2.2.2.2.2.2.2.2.2.2.1.2))]] H locs := hw
  refine lv_aload_n hx hb dX11_reset_0 rfl (lv_at hl 0 rfl) ?_
  refine lv_iconst (v := 0) hx hb dX11_reset_1 (by decide) ?_
  refine k_put (ci := 11) (v := .int (0 : Int32)) (ty := .int) (C := RX11) (T := TX11) (N := 14) (bs1 := [[(a0.1, .inr (11, [.ref a0.2.1, .ref a0.2.2.1, .int v0.2.2.1, .int (0 : Int32), .ref a0.2.2.2.1, .int v0.2.2.2.2.2.1, .int v0.2.2.2.2.2.2.1, .ref a0.2.2.2.2.1, .int v0.2.2.2.2.2.2.2.2.1, .int v0.2.2.2.2.2.2.2.2.2.1, .int v0.2.2.2.2.2.2.2.2.2.2.1, .int v0.2.2.2.2.2.2.2.2.2.2.2.1, .ref a0.2.2.2.2.2, .int v0.2.2.2.2.2.2.2.2.2.2.2.2.2]))], [(a0.2.1, .inl (cA, v0.1.1, .inl v0.1.2))], [(a0.2.2.1, .inl (cA, v0.2.1.1, .inl v0.2.1.2))], [(a0.2.2.2.1, .inl (cA, v0.2.2.2.2.1.1, .inl v0.2.2.2.2.1.2))], [(a0.2.2.2.2.1, .inl (cA, v0.2.2.2.2.2.2.2.1.1, .inl v0.2.2.2.2.2.2.2.1.2))], [(a0.2.2.2.2.2, .inl (cA, v0.2.2.2.2.2.2.2.2.2.2.2.2.1.1, .inl v0.2.2.2.2.2.2.2.2.2.2.2.2.1.2))]]) hx hb hts hown hz hw (by decide +kernel) tyX11 tyX11_ok nmX11 0 rfl rfl 3 (by decide) (hts (.fieldLink RX11 28 "OccupancyMonitorModel" "thrown" "I") (by decide +kernel)) (fun _ h9 => h9) rfl (by decide +kernel) rfl rfl (Nat.le_of_ble_eq_true rfl) dX11_reset_2 rfl (fun H locs hw => ?_)
  refine lv_aload_n hx hb dX11_reset_5 rfl (lv_at hl 0 rfl) ?_
  have hw : ww A s.heap D [w11 cA a0 (v0.1, v0.2.1, v0.2.2.1, (0 : Int32), v0.2.2.2.2.1, v0.2.2.2.2.2.1, v0.2.2.2.2.2.2.1, v0.2.2.2.2.2.2.2.1, v0.2.2.2.2.2.2.2.2.1, v0.2.2.2.2.2.2.2.2.2.1, v0.2.2.2.2.2.2.2.2.2.2.1, v0.2.2.2.2.2.2.2.2.2.2.2.1, v0.2.2.2.2.2.2.2.2.2.2.2.2.1, v0.2.2.2.2.2.2.2.2.2.2.2.2.2)] H locs := hw
  obtain ⟨o1, hso1, hsp⟩ := bnd_of hsp
  refine k_callV (ci := 11) (C := RX11) (T := TX11) (N := 14) (nA := 0) (As := []) (cs := [w11 cA a0 (v0.1, v0.2.1, v0.2.2.1, (0 : Int32), v0.2.2.2.2.1, v0.2.2.2.2.2.1, v0.2.2.2.2.2.2.1, v0.2.2.2.2.2.2.2.1, v0.2.2.2.2.2.2.2.2.1, v0.2.2.2.2.2.2.2.2.2.1, v0.2.2.2.2.2.2.2.2.2.2.1, v0.2.2.2.2.2.2.2.2.2.2.2.1, v0.2.2.2.2.2.2.2.2.2.2.2.2.1, v0.2.2.2.2.2.2.2.2.2.2.2.2.2)]) (rs := []) (cs1 := [w11 cA a0 o1]) (bs1 := [w11 cA a0 o1]) (rest := []) (st1 := []) ⟨hx, hb, hml, hown, hts⟩ hz hw hA (mX11_save l D cA cR N a0 (v0.1, v0.2.1, v0.2.2.1, (0 : Int32), v0.2.2.2.2.1, v0.2.2.2.2.2.1, v0.2.2.2.2.2.2.1, v0.2.2.2.2.2.2.2.1, v0.2.2.2.2.2.2.2.2.1, v0.2.2.2.2.2.2.2.2.2.1, v0.2.2.2.2.2.2.2.2.2.2.1, v0.2.2.2.2.2.2.2.2.2.2.2.1, v0.2.2.2.2.2.2.2.2.2.2.2.2.1, v0.2.2.2.2.2.2.2.2.2.2.2.2.2) o1 hso1) gX11_reset_X11_save rfl rfl rfl (by decide +kernel) rfl ⟨Nat.le_of_ble_eq_true rfl, Nat.le_of_ble_eq_true rfl⟩ rfl rfl hl.1 rfl (Nat.le_of_ble_eq_true rfl) dX11_reset_6 ⟨Nat.le_of_ble_eq_true rfl, Nat.le_of_ble_eq_true rfl⟩ [0] [] [0] rfl rfl rfl rfl rfl rfl (fun H locs hw => ?_)
  have hw : ww A s.heap D [[(a0.1, .inr (11, [.ref a0.2.1, .ref a0.2.2.1, .int o1.2.2.1, .int o1.2.2.2.1, .ref a0.2.2.2.1, .int o1.2.2.2.2.2.1, .int o1.2.2.2.2.2.2.1, .ref a0.2.2.2.2.1, .int o1.2.2.2.2.2.2.2.2.1, .int o1.2.2.2.2.2.2.2.2.2.1, .int o1.2.2.2.2.2.2.2.2.2.2.1, .int o1.2.2.2.2.2.2.2.2.2.2.2.1, .ref a0.2.2.2.2.2, .int o1.2.2.2.2.2.2.2.2.2.2.2.2.2]))], [(a0.2.1, .inl (cA, o1.1.1, .inl o1.1.2))], [(a0.2.2.1, .inl (cA, o1.2.1.1, .inl o1.2.1.2))], [(a0.2.2.2.1, .inl (cA, o1.2.2.2.2.1.1, .inl o1.2.2.2.2.1.2))], [(a0.2.2.2.2.1, .inl (cA, o1.2.2.2.2.2.2.2.1.1, .inl o1.2.2.2.2.2.2.2.1.2))], [(a0.2.2.2.2.2, .inl (cA, o1.2.2.2.2.2.2.2.2.2.2.2.2.1.1, .inl o1.2.2.2.2.2.2.2.2.2.2.2.2.1.2))]] H locs := hw
  refine lv_aload_n hx hb dX11_reset_9 rfl (lv_at hl 0 rfl) ?_
  refine k_get (ci := 11) (v := .ref a0.2.1) (C := RX11) (T := TX11) (N := 14) hx hb hts hown hz hw (by decide +kernel) 0 rfl rfl 0 (by decide) (hts (.fieldLink RX11 7 "OccupancyMonitorModel" "all" "[I") (by decide +kernel)) (fun _ h9 => h9) rfl dX11_reset_10 ?_
  refine lv_bipush (v := 9) hx hb dX11_reset_13 (by decide) ?_
  obtain ⟨g2, hsp⟩ := grd_of hsp
  refine k_iald hx hb hz hw 1 rfl g2 dX11_reset_15 ?_
  refine lv_istore_n (lv' := [(1, .int (o1.1.2 (9 : Int32).toNatClampNeg)), (0, .ref a0.1)]) hx hb dX11_reset_16 rfl hl (by decide) rfl (fun ls hl => ?_)
  refine lv_aload_n hx hb dX11_reset_17 rfl (lv_at hl 1 rfl) ?_
  have hw : ww A s.heap D [w11 cA a0 o1] H locs := hw
  obtain ⟨o3, hso3, hsp⟩ := bnd_of hsp
  refine k_callV (ci := 11) (C := RX11) (T := TX11) (N := 14) (nA := 0) (As := []) (cs := [w11 cA a0 o1]) (rs := []) (cs1 := [w11 cA a0 o3]) (bs1 := [w11 cA a0 o3]) (rest := []) (st1 := []) ⟨hx, hb, hml, hown, hts⟩ hz hw hA (mX11_clears l D cA cR N a0 o1 o3 hso3) gX11_reset_X11_clears rfl rfl rfl (by decide +kernel) rfl ⟨Nat.le_of_ble_eq_true rfl, Nat.le_of_ble_eq_true rfl⟩ rfl rfl hl.1 rfl (Nat.le_of_ble_eq_true rfl) dX11_reset_18 ⟨Nat.le_of_ble_eq_true rfl, Nat.le_of_ble_eq_true rfl⟩ [0] [] [0] rfl rfl rfl rfl rfl rfl (fun H locs hw => ?_)
  have hw : ww A s.heap D [[(a0.1, .inr (11, [.ref a0.2.1, .ref a0.2.2.1, .int o3.2.2.1, .int o3.2.2.2.1, .ref a0.2.2.2.1, .int o3.2.2.2.2.2.1, .int o3.2.2.2.2.2.2.1, .ref a0.2.2.2.2.1, .int o3.2.2.2.2.2.2.2.2.1, .int o3.2.2.2.2.2.2.2.2.2.1, .int o3.2.2.2.2.2.2.2.2.2.2.1, .int o3.2.2.2.2.2.2.2.2.2.2.2.1, .ref a0.2.2.2.2.2, .int o3.2.2.2.2.2.2.2.2.2.2.2.2.2]))], [(a0.2.1, .inl (cA, o3.1.1, .inl o3.1.2))], [(a0.2.2.1, .inl (cA, o3.2.1.1, .inl o3.2.1.2))], [(a0.2.2.2.1, .inl (cA, o3.2.2.2.2.1.1, .inl o3.2.2.2.2.1.2))], [(a0.2.2.2.2.1, .inl (cA, o3.2.2.2.2.2.2.2.1.1, .inl o3.2.2.2.2.2.2.2.1.2))], [(a0.2.2.2.2.2, .inl (cA, o3.2.2.2.2.2.2.2.2.2.2.2.2.1.1, .inl o3.2.2.2.2.2.2.2.2.2.2.2.2.1.2))]] H locs := hw
  refine lv_iload_n hx hb dX11_reset_21 rfl (lv_at hl 0 rfl) ?_
  have hsp := Option.some.inj hsp
  subst hsp
  have hw : ww A s.heap D [w11 cA a0 o3] H locs := hw
  subst hQ
  exact k_iret hx hb hr hlk hw dX11_reset_22
noncomputable def sX11_apart (p1 : Int32) (p2 : Int32) : Option (Int32) := (if p1 ≤ p2 then (some (p2 - p1)) else (some (p1 - p2)))
abbrev rX11_apart : Room := { frames := 0, cells := 0, slots := 0, locals := 0 }
set_option maxHeartbeats 4000000 in
set_option maxRecDepth 100000 in
theorem mX11_apart (l : Launch) (D : va_G) (cA cR : ClassId) (p1 : Int32) (p2 : Int32) (o : Int32) (hsp : sX11_apart p1 p2 = some o) : MI l yX11_apart wsX11_apart rX11_apart D cA cR [.int p1, .int p2] [] (some (.int o)) [] 0 0 := by
  have hsp : (if p1 ≤ p2 then (some (p2 - p1)) else (some (p1 - p2))) = some o := hsp
  refine MI.ofW (cc := cX11_apart) (maxL := 2) (ret := (some .int)) (by decide) rfl (Nat.le_of_ble_eq_true rfl) ?_
  intro p e s m args below meth c A ls Q H locs hx hb hr hlk hml hown hnm hts hz hA hQ hw hl
  have hl : lv_has ls 2 [(0, .int p1), (1, .int p2)] := hl
  have hw : ww A s.heap D [] H locs := hw
  refine lv_iload_n hx hb dX11_apart_0 rfl (lv_at hl 0 rfl) ?_
  refine lv_iload_n hx hb dX11_apart_1 rfl (lv_at hl 1 rfl) ?_
  refine lv_icmp_le (tgt := 11) hx hb dX11_apart_2 (by decide) (fun c1 => ?_) (fun c1 => ?_)
  · have hsp := ift c1 hsp
    refine lv_iload_n hx hb dX11_apart_11 rfl (lv_at hl 1 rfl) ?_
    refine lv_iload_n hx hb dX11_apart_12 rfl (lv_at hl 0 rfl) ?_
    refine lv_isub hx hb dX11_apart_13 ?_
    have hsp := Option.some.inj hsp
    subst hsp
    have hw : ww A s.heap D [] H locs := hw
    subst hQ
    exact k_iret hx hb hr hlk hw dX11_apart_14
  · have hsp := iff_ c1 hsp
    refine lv_iload_n hx hb dX11_apart_5 rfl (lv_at hl 0 rfl) ?_
    refine lv_iload_n hx hb dX11_apart_6 rfl (lv_at hl 1 rfl) ?_
    refine lv_isub hx hb dX11_apart_7 ?_
    refine lv_goto (tgt := 14) hx hb dX11_apart_8 (by decide) ?_
    have hsp := Option.some.inj hsp
    subst hsp
    have hw : ww A s.heap D [] H locs := hw
    subst hQ
    exact k_iret hx hb hr hlk hw dX11_apart_14
noncomputable def qX11_laysChains_72 (v0 : V11) (z2_0 : Int32) (z22_0 : Int32) (z22_1 : (Nat → Int32)) : Nat → Int32 → Int32 → Option (Int32 × Int32)
  | 0, _, _ => none
  | n72 + 1, z72_0, z72_1 => (if z2_0 ≤ z72_1 then (some (z72_0, z72_1)) else (((if z72_0 = 0 then (some (0 : Int32)) else (grd (vp_in z72_1 v0.2.2.2.2.2.2.2.2.2.2.2.2.1.1) (if (z22_1 z72_1.toNatClampNeg) = z22_0 then (some (0 : Int32)) else (some (1 : Int32))))) : Option (Int32)).bind (fun j515 => (qX11_laysChains_72 v0 z2_0 z22_0 z22_1 n72 j515 (z72_1 + 1)))))
noncomputable def qX11_laysChains_22 (N : Nat) (v0 : V11) (z2_0 : Int32) : Nat → Int32 → (Nat → Int32) → Option (Int32 × (Nat → Int32))
  | 0, _, _ => none
  | n22 + 1, z22_0, z22_1 => (if z2_0 ≤ z22_0 then (some (z22_0, z22_1)) else ((sX11_eventAt z22_0 (4 : Int32)).bind (fun o485 => (grd (vp_in o485 v0.1.1) (((if (v0.1.2 o485.toNatClampNeg) = 0 then ((sX11_eventAt z22_0 (0 : Int32)).bind (fun o572 => (grd (vp_in o572 v0.1.1) ((sX11_eventAt z2_0 (0 : Int32)).bind (fun o574 => (grd (vp_in o574 v0.1.1) (if (v0.1.2 o572.toNatClampNeg) = (v0.1.2 o574.toNatClampNeg) then (some (0 : Int32)) else (some (1 : Int32))))))))) else (some (0 : Int32))) : Option (Int32)).bind (fun j493 => ((qX11_laysChains_72 v0 z2_0 z22_0 z22_1 N j493 (0 : Int32)).bind (fun o510 => ((sX11_eventAt z2_0 (1 : Int32)).bind (fun o519 => (grd (vp_in o519 v0.1.1) ((sX11_eventAt z22_0 (2 : Int32)).bind (fun o521 => (grd (vp_in o521 v0.1.1) (((if o510.1 = 0 then (some (0 : Int32)) else (grd (vp_in (3 : Int32) v0.1.1) ((sX11_in (((v0.1.2 o519.toNatClampNeg) - (v0.1.2 o521.toNatClampNeg)).toInt64) (1 : Int64) ((v0.1.2 (3 : Int32).toNatClampNeg).toInt64)).bind (fun o562 => (if o562 = 0 then (some (0 : Int32)) else ((sX11_eventAt z22_0 (3 : Int32)).bind (fun o564 => (grd (vp_in o564 v0.1.1) ((sX11_eventAt z2_0 (3 : Int32)).bind (fun o566 => (grd (vp_in o566 v0.1.1) ((sX11_apart (v0.1.2 o564.toNatClampNeg) (v0.1.2 o566.toNatClampNeg)).bind (fun o568 => (grd (vp_in (4 : Int32) v0.1.1) (if (v0.1.2 (4 : Int32).toNatClampNeg) < o568 then (some (0 : Int32)) else (some (1 : Int32))))))))))))))))) : Option (Int32)).bind (fun j534 => (((if j534 = 0 then (grd (vp_in z2_0 v0.2.2.2.2.2.2.2.2.2.2.2.2.1.1) (some (z22_1 z2_0.toNatClampNeg))) else (grd (vp_in z2_0 v0.2.2.2.2.2.2.2.2.2.2.2.2.1.1) (if (z22_1 z2_0.toNatClampNeg) = (-1 : Int32) then (some z22_0) else ((sX11_eventAt z22_0 (2 : Int32)).bind (fun o553 => (grd (vp_in o553 v0.1.1) (grd (vp_in z2_0 v0.2.2.2.2.2.2.2.2.2.2.2.2.1.1) ((sX11_eventAt (z22_1 z2_0.toNatClampNeg) (2 : Int32)).bind (fun o556 => (grd (vp_in o556 v0.1.1) (if (v0.1.2 o553.toNatClampNeg) < (v0.1.2 o556.toNatClampNeg) then (grd (vp_in z2_0 v0.2.2.2.2.2.2.2.2.2.2.2.2.1.1) (some (z22_1 z2_0.toNatClampNeg))) else (some z22_0)))))))))))) : Option (Int32)).bind (fun j546 => (grd (vp_in z2_0 v0.2.2.2.2.2.2.2.2.2.2.2.2.1.1) (lt_ (upd z22_1 z2_0.toNatClampNeg j546) (fun f548 => (qX11_laysChains_22 N v0 z2_0 n22 (z22_0 + 1) f548))))))))))))))))))))))
noncomputable def qX11_laysChains_2 (N : Nat) (v0 : V11) : Nat → Int32 → (Nat → Int32) → Option (Int32 × (Nat → Int32))
  | 0, _, _ => none
  | n2 + 1, z2_0, z2_1 => (grd (vp_in (9 : Int32) v0.1.1) (if (v0.1.2 (9 : Int32).toNatClampNeg) ≤ z2_0 then (some (z2_0, z2_1)) else (grd (vp_in z2_0 v0.2.2.2.2.2.2.2.2.2.2.2.2.1.1) (lt_ (upd z2_1 z2_0.toNatClampNeg (-1 : Int32)) (fun f296 => ((qX11_laysChains_22 N v0 z2_0 N (0 : Int32) f296).bind (fun o483 => (qX11_laysChains_2 N v0 n2 (z2_0 + 1) o483.2))))))))
noncomputable def sX11_laysChains (N : Nat) (v0 : V11) : Option (V11) := ((qX11_laysChains_2 N v0 N (0 : Int32) v0.2.2.2.2.2.2.2.2.2.2.2.2.1.2).bind (fun o292 => (some (v0.1, v0.2.1, v0.2.2.1, v0.2.2.2.1, v0.2.2.2.2.1, v0.2.2.2.2.2.1, v0.2.2.2.2.2.2.1, v0.2.2.2.2.2.2.2.1, v0.2.2.2.2.2.2.2.2.1, v0.2.2.2.2.2.2.2.2.2.1, v0.2.2.2.2.2.2.2.2.2.2.1, v0.2.2.2.2.2.2.2.2.2.2.2.1, (v0.2.2.2.2.2.2.2.2.2.2.2.2.1.1, o292.2), v0.2.2.2.2.2.2.2.2.2.2.2.2.2))))
abbrev rX11_laysChains : Room := { frames := 1, cells := 0, slots := 0, locals := 25 }
set_option maxHeartbeats 4000000 in
set_option maxRecDepth 100000 in
theorem mX11_laysChains (l : Launch) (D : va_G) (cA cR : ClassId) (N : Nat) (a0 : A11) (v0 : V11) (o : V11) (hsp : sX11_laysChains N v0 = some o) : MI l yX11_laysChains wsX11_laysChains rX11_laysChains D cA cR [.ref a0.1] [w11 cA a0 v0] none [w11 cA a0 o] 0 0 := by
  have hsp : ((qX11_laysChains_2 N v0 N (0 : Int32) v0.2.2.2.2.2.2.2.2.2.2.2.2.1.2).bind (fun o292 => (some (v0.1, v0.2.1, v0.2.2.1, v0.2.2.2.1, v0.2.2.2.2.1, v0.2.2.2.2.2.1, v0.2.2.2.2.2.2.1, v0.2.2.2.2.2.2.2.1, v0.2.2.2.2.2.2.2.2.1, v0.2.2.2.2.2.2.2.2.2.1, v0.2.2.2.2.2.2.2.2.2.2.1, v0.2.2.2.2.2.2.2.2.2.2.2.1, (v0.2.2.2.2.2.2.2.2.2.2.2.2.1.1, o292.2), v0.2.2.2.2.2.2.2.2.2.2.2.2.2)))) = some o := hsp
  refine MI.ofW (cc := cX11_laysChains) (maxL := 6) (ret := none) (by decide) rfl (Nat.le_of_ble_eq_true rfl) ?_
  intro p e s m args below meth c A ls Q H locs hx hb hr hlk hml hown hnm hts hz hA hQ hw hl
  have hl : lv_has ls 6 [(0, .ref a0.1)] := hl
  have hw : ww A s.heap D [[(a0.1, .inr (11, [.ref a0.2.1, .ref a0.2.2.1, .int v0.2.2.1, .int v0.2.2.2.1, .ref a0.2.2.2.1, .int v0.2.2.2.2.2.1, .int v0.2.2.2.2.2.2.1, .ref a0.2.2.2.2.1, .int v0.2.2.2.2.2.2.2.2.1, .int v0.2.2.2.2.2.2.2.2.2.1, .int v0.2.2.2.2.2.2.2.2.2.2.1, .int v0.2.2.2.2.2.2.2.2.2.2.2.1, .ref a0.2.2.2.2.2, .int v0.2.2.2.2.2.2.2.2.2.2.2.2.2]))], [(a0.2.1, .inl (cA, v0.1.1, .inl v0.1.2))], [(a0.2.2.1, .inl (cA, v0.2.1.1, .inl v0.2.1.2))], [(a0.2.2.2.1, .inl (cA, v0.2.2.2.2.1.1, .inl v0.2.2.2.2.1.2))], [(a0.2.2.2.2.1, .inl (cA, v0.2.2.2.2.2.2.2.1.1, .inl v0.2.2.2.2.2.2.2.1.2))], [(a0.2.2.2.2.2, .inl (cA, v0.2.2.2.2.2.2.2.2.2.2.2.2.1.1, .inl v0.2.2.2.2.2.2.2.2.2.2.2.2.1.2))]] H locs := hw
  refine lv_iconst (v := 0) hx hb dX11_laysChains_0 (by decide) ?_
  refine lv_istore_n (lv' := [(1, .int (0 : Int32)), (0, .ref a0.1)]) hx hb dX11_laysChains_1 rfl hl (by decide) rfl (fun ls hl => ?_)
  have L2 : ∀ (n2 : Nat) (z2_0 : Int32) (z2_1 : (Nat → Int32)) (o292 : Int32 × (Nat → Int32)), qX11_laysChains_2 N v0 n2 z2_0 z2_1 = some o292 → ∀ (H : Heap) (locs : List Loc) (ls : Array Slot), ww A s.heap D [[(a0.1, .inr (11, [.ref a0.2.1, .ref a0.2.2.1, .int v0.2.2.1, .int v0.2.2.2.1, .ref a0.2.2.2.1, .int v0.2.2.2.2.2.1, .int v0.2.2.2.2.2.2.1, .ref a0.2.2.2.2.1, .int v0.2.2.2.2.2.2.2.2.1, .int v0.2.2.2.2.2.2.2.2.2.1, .int v0.2.2.2.2.2.2.2.2.2.2.1, .int v0.2.2.2.2.2.2.2.2.2.2.2.1, .ref a0.2.2.2.2.2, .int v0.2.2.2.2.2.2.2.2.2.2.2.2.2]))], [(a0.2.1, .inl (cA, v0.1.1, .inl v0.1.2))], [(a0.2.2.1, .inl (cA, v0.2.1.1, .inl v0.2.1.2))], [(a0.2.2.2.1, .inl (cA, v0.2.2.2.2.1.1, .inl v0.2.2.2.2.1.2))], [(a0.2.2.2.2.1, .inl (cA, v0.2.2.2.2.2.2.2.1.1, .inl v0.2.2.2.2.2.2.2.1.2))], [(a0.2.2.2.2.2, .inl (cA, v0.2.2.2.2.2.2.2.2.2.2.2.2.1.1, .inl z2_1))]] H locs → lv_has ls 6 [(0, .ref a0.1), (1, .int z2_0)] → (∀ (y259 : Int32 × (Nat → Int32)), o292 = y259 → ∀ (H : Heap) (locs : List Loc) (ls : Array Slot), ww A s.heap D [[(a0.1, .inr (11, [.ref a0.2.1, .ref a0.2.2.1, .int v0.2.2.1, .int v0.2.2.2.1, .ref a0.2.2.2.1, .int v0.2.2.2.2.2.1, .int v0.2.2.2.2.2.2.1, .ref a0.2.2.2.2.1, .int v0.2.2.2.2.2.2.2.2.1, .int v0.2.2.2.2.2.2.2.2.2.1, .int v0.2.2.2.2.2.2.2.2.2.2.1, .int v0.2.2.2.2.2.2.2.2.2.2.2.1, .ref a0.2.2.2.2.2, .int v0.2.2.2.2.2.2.2.2.2.2.2.2.2]))], [(a0.2.1, .inl (cA, v0.1.1, .inl v0.1.2))], [(a0.2.2.1, .inl (cA, v0.2.1.1, .inl v0.2.1.2))], [(a0.2.2.2.1, .inl (cA, v0.2.2.2.2.1.1, .inl v0.2.2.2.2.1.2))], [(a0.2.2.2.2.1, .inl (cA, v0.2.2.2.2.2.2.2.1.1, .inl v0.2.2.2.2.2.2.2.1.2))], [(a0.2.2.2.2.2, .inl (cA, v0.2.2.2.2.2.2.2.2.2.2.2.2.1.1, .inl y259.2))]] H locs → lv_has ls 6 [(0, .ref a0.1), (1, .int y259.1)] → W p l e rX11_laysChains s m args below meth c H locs 0 0 Q (F0 m 259 ls [])) → W p l e rX11_laysChains s m args below meth c H locs 0 0 Q (F0 m 2 ls []) := by
    intro n2
    induction n2 with
    | zero => intro z2_0 z2_1 o292 hsp; cases hsp
    | succ n2 ih2 =>
      intro z2_0 z2_1 o292 hsp H locs ls hw hl kx2_259
      have hsp : (grd (vp_in (9 : Int32) v0.1.1) (if (v0.1.2 (9 : Int32).toNatClampNeg) ≤ z2_0 then (some (z2_0, z2_1)) else (grd (vp_in z2_0 v0.2.2.2.2.2.2.2.2.2.2.2.2.1.1) (lt_ (upd z2_1 z2_0.toNatClampNeg (-1 : Int32)) (fun f296 => ((qX11_laysChains_22 N v0 z2_0 N (0 : Int32) f296).bind (fun o483 => (qX11_laysChains_2 N v0 n2 (z2_0 + 1) o483.2)))))))) = some o292 := hsp
      refine lv_iload_n hx hb dX11_laysChains_2 rfl (lv_at hl 1 rfl) ?_
      refine lv_aload_n hx hb dX11_laysChains_3 rfl (lv_at hl 0 rfl) ?_
      refine k_get (ci := 11) (v := .ref a0.2.1) (C := RX11) (T := TX11) (N := 14) hx hb hts hown hz hw (by decide +kernel) 0 rfl rfl 0 (by decide) (hts (.fieldLink RX11 7 "OccupancyMonitorModel" "all" "[I") (by decide +kernel)) (fun _ h9 => h9) rfl dX11_laysChains_4 ?_
      refine lv_bipush (v := 9) hx hb dX11_laysChains_7 (by decide) ?_
      obtain ⟨g293, hsp⟩ := grd_of hsp
      refine k_iald hx hb hz hw 1 rfl g293 dX11_laysChains_9 ?_
      refine lv_icmp_ge (tgt := 259) hx hb dX11_laysChains_10 (by decide) (fun c294 => ?_) (fun c294 => ?_)
      · have hsp := ift c294 hsp
        have hsp := Option.some.inj hsp
        subst hsp
        exact kx2_259 _ rfl _ _ _ hw (lv_sub hl [0, 1] rfl)
      · have hsp := iff_ c294 hsp
        refine lv_aload_n hx hb dX11_laysChains_13 rfl (lv_at hl 0 rfl) ?_
        refine k_get (ci := 11) (v := .ref a0.2.2.2.2.2) (C := RX11) (T := TX11) (N := 14) hx hb hts hown hz hw (by decide +kernel) 0 rfl rfl 12 (by decide) (hts (.fieldLink RX11 22 "OccupancyMonitorModel" "before" "[I") (by decide +kernel)) (fun _ h9 => h9) rfl dX11_laysChains_14 ?_
        refine lv_iload_n hx hb dX11_laysChains_17 rfl (lv_at hl 1 rfl) ?_
        refine lv_iconst (v := -1) hx hb dX11_laysChains_18 (by decide) ?_
        obtain ⟨g295, hsp⟩ := grd_of hsp
        obtain ⟨f296, ef296⟩ : ∃ u : Nat → Int32, u = (upd z2_1 z2_0.toNatClampNeg (-1 : Int32)) := ⟨_, rfl⟩
        have hsp := lt_of hsp ef296
        refine k_iast (bs1 := [[(a0.1, .inr (11, [.ref a0.2.1, .ref a0.2.2.1, .int v0.2.2.1, .int v0.2.2.2.1, .ref a0.2.2.2.1, .int v0.2.2.2.2.2.1, .int v0.2.2.2.2.2.2.1, .ref a0.2.2.2.2.1, .int v0.2.2.2.2.2.2.2.2.1, .int v0.2.2.2.2.2.2.2.2.2.1, .int v0.2.2.2.2.2.2.2.2.2.2.1, .int v0.2.2.2.2.2.2.2.2.2.2.2.1, .ref a0.2.2.2.2.2, .int v0.2.2.2.2.2.2.2.2.2.2.2.2.2]))], [(a0.2.1, .inl (cA, v0.1.1, .inl v0.1.2))], [(a0.2.2.1, .inl (cA, v0.2.1.1, .inl v0.2.1.2))], [(a0.2.2.2.1, .inl (cA, v0.2.2.2.2.1.1, .inl v0.2.2.2.2.1.2))], [(a0.2.2.2.2.1, .inl (cA, v0.2.2.2.2.2.2.2.1.1, .inl v0.2.2.2.2.2.2.2.1.2))], [(a0.2.2.2.2.2, .inl (cA, v0.2.2.2.2.2.2.2.2.2.2.2.2.1.1, .inl f296))]]) hx hb hz hw 5 rfl g295 dX11_laysChains_19 (by rw [ef296]; rfl) (fun H locs hw => ?_)
        refine lv_iconst (v := 0) hx hb dX11_laysChains_20 (by decide) ?_
        refine lv_istore_n (lv' := [(2, .int (0 : Int32)), (0, .ref a0.1), (1, .int z2_0)]) hx hb dX11_laysChains_21 rfl hl (by decide) rfl (fun ls hl => ?_)
        have L22 : ∀ (n22 : Nat) (z22_0 : Int32) (z22_1 : (Nat → Int32)) (o483 : Int32 × (Nat → Int32)), qX11_laysChains_22 N v0 z2_0 n22 z22_0 z22_1 = some o483 → ∀ (H : Heap) (locs : List Loc) (ls : Array Slot), ww A s.heap D [[(a0.1, .inr (11, [.ref a0.2.1, .ref a0.2.2.1, .int v0.2.2.1, .int v0.2.2.2.1, .ref a0.2.2.2.1, .int v0.2.2.2.2.2.1, .int v0.2.2.2.2.2.2.1, .ref a0.2.2.2.2.1, .int v0.2.2.2.2.2.2.2.2.1, .int v0.2.2.2.2.2.2.2.2.2.1, .int v0.2.2.2.2.2.2.2.2.2.2.1, .int v0.2.2.2.2.2.2.2.2.2.2.2.1, .ref a0.2.2.2.2.2, .int v0.2.2.2.2.2.2.2.2.2.2.2.2.2]))], [(a0.2.1, .inl (cA, v0.1.1, .inl v0.1.2))], [(a0.2.2.1, .inl (cA, v0.2.1.1, .inl v0.2.1.2))], [(a0.2.2.2.1, .inl (cA, v0.2.2.2.2.1.1, .inl v0.2.2.2.2.1.2))], [(a0.2.2.2.2.1, .inl (cA, v0.2.2.2.2.2.2.2.1.1, .inl v0.2.2.2.2.2.2.2.1.2))], [(a0.2.2.2.2.2, .inl (cA, v0.2.2.2.2.2.2.2.2.2.2.2.2.1.1, .inl z22_1))]] H locs → lv_has ls 6 [(0, .ref a0.1), (1, .int z2_0), (2, .int z22_0)] → (∀ (y253 : Int32 × (Nat → Int32)), o483 = y253 → ∀ (H : Heap) (locs : List Loc) (ls : Array Slot), ww A s.heap D [[(a0.1, .inr (11, [.ref a0.2.1, .ref a0.2.2.1, .int v0.2.2.1, .int v0.2.2.2.1, .ref a0.2.2.2.1, .int v0.2.2.2.2.2.1, .int v0.2.2.2.2.2.2.1, .ref a0.2.2.2.2.1, .int v0.2.2.2.2.2.2.2.2.1, .int v0.2.2.2.2.2.2.2.2.2.1, .int v0.2.2.2.2.2.2.2.2.2.2.1, .int v0.2.2.2.2.2.2.2.2.2.2.2.1, .ref a0.2.2.2.2.2, .int v0.2.2.2.2.2.2.2.2.2.2.2.2.2]))], [(a0.2.1, .inl (cA, v0.1.1, .inl v0.1.2))], [(a0.2.2.1, .inl (cA, v0.2.1.1, .inl v0.2.1.2))], [(a0.2.2.2.1, .inl (cA, v0.2.2.2.2.1.1, .inl v0.2.2.2.2.1.2))], [(a0.2.2.2.2.1, .inl (cA, v0.2.2.2.2.2.2.2.1.1, .inl v0.2.2.2.2.2.2.2.1.2))], [(a0.2.2.2.2.2, .inl (cA, v0.2.2.2.2.2.2.2.2.2.2.2.2.1.1, .inl y253.2))]] H locs → lv_has ls 6 [(0, .ref a0.1), (1, .int z2_0), (2, .int y253.1)] → W p l e rX11_laysChains s m args below meth c H locs 0 0 Q (F0 m 253 ls [])) → W p l e rX11_laysChains s m args below meth c H locs 0 0 Q (F0 m 22 ls []) := by
          intro n22
          induction n22 with
          | zero => intro z22_0 z22_1 o483 hsp; cases hsp
          | succ n22 ih22 =>
            intro z22_0 z22_1 o483 hsp H locs ls hw hl kx22_253
            have hsp : (if z2_0 ≤ z22_0 then (some (z22_0, z22_1)) else ((sX11_eventAt z22_0 (4 : Int32)).bind (fun o485 => (grd (vp_in o485 v0.1.1) (((if (v0.1.2 o485.toNatClampNeg) = 0 then ((sX11_eventAt z22_0 (0 : Int32)).bind (fun o572 => (grd (vp_in o572 v0.1.1) ((sX11_eventAt z2_0 (0 : Int32)).bind (fun o574 => (grd (vp_in o574 v0.1.1) (if (v0.1.2 o572.toNatClampNeg) = (v0.1.2 o574.toNatClampNeg) then (some (0 : Int32)) else (some (1 : Int32))))))))) else (some (0 : Int32))) : Option (Int32)).bind (fun j493 => ((qX11_laysChains_72 v0 z2_0 z22_0 z22_1 N j493 (0 : Int32)).bind (fun o510 => ((sX11_eventAt z2_0 (1 : Int32)).bind (fun o519 => (grd (vp_in o519 v0.1.1) ((sX11_eventAt z22_0 (2 : Int32)).bind (fun o521 => (grd (vp_in o521 v0.1.1) (((if o510.1 = 0 then (some (0 : Int32)) else (grd (vp_in (3 : Int32) v0.1.1) ((sX11_in (((v0.1.2 o519.toNatClampNeg) - (v0.1.2 o521.toNatClampNeg)).toInt64) (1 : Int64) ((v0.1.2 (3 : Int32).toNatClampNeg).toInt64)).bind (fun o562 => (if o562 = 0 then (some (0 : Int32)) else ((sX11_eventAt z22_0 (3 : Int32)).bind (fun o564 => (grd (vp_in o564 v0.1.1) ((sX11_eventAt z2_0 (3 : Int32)).bind (fun o566 => (grd (vp_in o566 v0.1.1) ((sX11_apart (v0.1.2 o564.toNatClampNeg) (v0.1.2 o566.toNatClampNeg)).bind (fun o568 => (grd (vp_in (4 : Int32) v0.1.1) (if (v0.1.2 (4 : Int32).toNatClampNeg) < o568 then (some (0 : Int32)) else (some (1 : Int32))))))))))))))))) : Option (Int32)).bind (fun j534 => (((if j534 = 0 then (grd (vp_in z2_0 v0.2.2.2.2.2.2.2.2.2.2.2.2.1.1) (some (z22_1 z2_0.toNatClampNeg))) else (grd (vp_in z2_0 v0.2.2.2.2.2.2.2.2.2.2.2.2.1.1) (if (z22_1 z2_0.toNatClampNeg) = (-1 : Int32) then (some z22_0) else ((sX11_eventAt z22_0 (2 : Int32)).bind (fun o553 => (grd (vp_in o553 v0.1.1) (grd (vp_in z2_0 v0.2.2.2.2.2.2.2.2.2.2.2.2.1.1) ((sX11_eventAt (z22_1 z2_0.toNatClampNeg) (2 : Int32)).bind (fun o556 => (grd (vp_in o556 v0.1.1) (if (v0.1.2 o553.toNatClampNeg) < (v0.1.2 o556.toNatClampNeg) then (grd (vp_in z2_0 v0.2.2.2.2.2.2.2.2.2.2.2.2.1.1) (some (z22_1 z2_0.toNatClampNeg))) else (some z22_0)))))))))))) : Option (Int32)).bind (fun j546 => (grd (vp_in z2_0 v0.2.2.2.2.2.2.2.2.2.2.2.2.1.1) (lt_ (upd z22_1 z2_0.toNatClampNeg j546) (fun f548 => (qX11_laysChains_22 N v0 z2_0 n22 (z22_0 + 1) f548)))))))))))))))))))))) = some o483 := hsp
            refine lv_iload_n hx hb dX11_laysChains_22 rfl (lv_at hl 2 rfl) ?_
            refine lv_iload_n hx hb dX11_laysChains_23 rfl (lv_at hl 1 rfl) ?_
            refine lv_icmp_ge (tgt := 253) hx hb dX11_laysChains_24 (by decide) (fun c484 => ?_) (fun c484 => ?_)
            · have hsp := ift c484 hsp
              have hsp := Option.some.inj hsp
              subst hsp
              exact kx22_253 _ rfl _ _ _ hw (lv_sub hl [0, 1, 2] rfl)
            · have hsp := iff_ c484 hsp
              refine lv_aload_n hx hb dX11_laysChains_27 rfl (lv_at hl 0 rfl) ?_
              refine k_get (ci := 11) (v := .ref a0.2.1) (C := RX11) (T := TX11) (N := 14) hx hb hts hown hz hw (by decide +kernel) 0 rfl rfl 0 (by decide) (hts (.fieldLink RX11 7 "OccupancyMonitorModel" "all" "[I") (by decide +kernel)) (fun _ h9 => h9) rfl dX11_laysChains_28 ?_
              refine lv_iload_n hx hb dX11_laysChains_31 rfl (lv_at hl 2 rfl) ?_
              refine lv_iconst (v := 4) hx hb dX11_laysChains_32 (by decide) ?_
              obtain ⟨o485, hso485, hsp⟩ := bnd_of hsp
              refine k_callS (nA := 2) (As := [.int z22_0, .int (4 : Int32)]) (cs := []) (rs := [[(a0.1, .inr (11, [.ref a0.2.1, .ref a0.2.2.1, .int v0.2.2.1, .int v0.2.2.2.1, .ref a0.2.2.2.1, .int v0.2.2.2.2.2.1, .int v0.2.2.2.2.2.2.1, .ref a0.2.2.2.2.1, .int v0.2.2.2.2.2.2.2.2.1, .int v0.2.2.2.2.2.2.2.2.2.1, .int v0.2.2.2.2.2.2.2.2.2.2.1, .int v0.2.2.2.2.2.2.2.2.2.2.2.1, .ref a0.2.2.2.2.2, .int v0.2.2.2.2.2.2.2.2.2.2.2.2.2]))], [(a0.2.1, .inl (cA, v0.1.1, .inl v0.1.2))], [(a0.2.2.1, .inl (cA, v0.2.1.1, .inl v0.2.1.2))], [(a0.2.2.2.1, .inl (cA, v0.2.2.2.2.1.1, .inl v0.2.2.2.2.1.2))], [(a0.2.2.2.2.1, .inl (cA, v0.2.2.2.2.2.2.2.1.1, .inl v0.2.2.2.2.2.2.2.1.2))], [(a0.2.2.2.2.2, .inl (cA, v0.2.2.2.2.2.2.2.2.2.2.2.2.1.1, .inl z22_1))]]) (cs1 := []) (bs1 := [[(a0.1, .inr (11, [.ref a0.2.1, .ref a0.2.2.1, .int v0.2.2.1, .int v0.2.2.2.1, .ref a0.2.2.2.1, .int v0.2.2.2.2.2.1, .int v0.2.2.2.2.2.2.1, .ref a0.2.2.2.2.1, .int v0.2.2.2.2.2.2.2.2.1, .int v0.2.2.2.2.2.2.2.2.2.1, .int v0.2.2.2.2.2.2.2.2.2.2.1, .int v0.2.2.2.2.2.2.2.2.2.2.2.1, .ref a0.2.2.2.2.2, .int v0.2.2.2.2.2.2.2.2.2.2.2.2.2]))], [(a0.2.1, .inl (cA, v0.1.1, .inl v0.1.2))], [(a0.2.2.1, .inl (cA, v0.2.1.1, .inl v0.2.1.2))], [(a0.2.2.2.1, .inl (cA, v0.2.2.2.2.1.1, .inl v0.2.2.2.2.1.2))], [(a0.2.2.2.2.1, .inl (cA, v0.2.2.2.2.2.2.2.1.1, .inl v0.2.2.2.2.2.2.2.1.2))], [(a0.2.2.2.2.2, .inl (cA, v0.2.2.2.2.2.2.2.2.2.2.2.2.1.1, .inl z22_1))]]) (rest := [.ref a0.2.1]) (st1 := [.int o485, .ref a0.2.1]) ⟨hx, hb, hml, hown, hts⟩ hz hw hA (mX11_eventAt l D cA cR z22_0 (4 : Int32) o485 hso485) gX11_laysChains_X11_eventAt rfl rfl rfl (by decide +kernel) rfl ⟨Nat.le_of_ble_eq_true rfl, Nat.le_of_ble_eq_true rfl⟩ hl.1 rfl (Nat.le_of_ble_eq_true rfl) dX11_laysChains_33 ⟨Nat.le_of_ble_eq_true rfl, Nat.le_of_ble_eq_true rfl⟩ [] [0, 1, 2, 3, 4, 5] [0, 1, 2, 3, 4, 5] rfl rfl rfl rfl rfl rfl (fun H locs hw => ?_)
              obtain ⟨g486, hsp⟩ := grd_of hsp
              refine k_iald hx hb hz hw 1 rfl g486 dX11_laysChains_36 ?_
              obtain ⟨j493, hsj493, hkj493⟩ := bnd_of hsp
              have Jj493 : ∀ (H : Heap) (locs : List Loc) (ls : Array Slot), ww A s.heap D [[(a0.1, .inr (11, [.ref a0.2.1, .ref a0.2.2.1, .int v0.2.2.1, .int v0.2.2.2.1, .ref a0.2.2.2.1, .int v0.2.2.2.2.2.1, .int v0.2.2.2.2.2.2.1, .ref a0.2.2.2.2.1, .int v0.2.2.2.2.2.2.2.2.1, .int v0.2.2.2.2.2.2.2.2.2.1, .int v0.2.2.2.2.2.2.2.2.2.2.1, .int v0.2.2.2.2.2.2.2.2.2.2.2.1, .ref a0.2.2.2.2.2, .int v0.2.2.2.2.2.2.2.2.2.2.2.2.2]))], [(a0.2.1, .inl (cA, v0.1.1, .inl v0.1.2))], [(a0.2.2.1, .inl (cA, v0.2.1.1, .inl v0.2.1.2))], [(a0.2.2.2.1, .inl (cA, v0.2.2.2.2.1.1, .inl v0.2.2.2.2.1.2))], [(a0.2.2.2.2.1, .inl (cA, v0.2.2.2.2.2.2.2.1.1, .inl v0.2.2.2.2.2.2.2.1.2))], [(a0.2.2.2.2.2, .inl (cA, v0.2.2.2.2.2.2.2.2.2.2.2.2.1.1, .inl z22_1))]] H locs → lv_has ls 6 [(0, .ref a0.1), (1, .int z2_0), (2, .int z22_0)] → W p l e rX11_laysChains s m args below meth c H locs 0 0 Q (F0 m 68 ls [.int j493]) := by
                intro H locs ls hw hl
                have hsp := hkj493
                refine lv_istore_n (lv' := [(3, .int j493), (0, .ref a0.1), (1, .int z2_0), (2, .int z22_0)]) hx hb dX11_laysChains_68 rfl hl (by decide) rfl (fun ls hl => ?_)
                refine lv_iconst (v := 0) hx hb dX11_laysChains_69 (by decide) ?_
                refine lv_istore (lv' := [(4, .int (0 : Int32)), (3, .int j493), (0, .ref a0.1), (1, .int z2_0), (2, .int z22_0)]) hx hb dX11_laysChains_70 hl (by decide) rfl (fun ls hl => ?_)
                have L72 : ∀ (n72 : Nat) (z72_0 : Int32) (z72_1 : Int32) (o510 : Int32 × Int32), qX11_laysChains_72 v0 z2_0 z22_0 z22_1 n72 z72_0 z72_1 = some o510 → ∀ (H : Heap) (locs : List Loc) (ls : Array Slot), ww A s.heap D [[(a0.1, .inr (11, [.ref a0.2.1, .ref a0.2.2.1, .int v0.2.2.1, .int v0.2.2.2.1, .ref a0.2.2.2.1, .int v0.2.2.2.2.2.1, .int v0.2.2.2.2.2.2.1, .ref a0.2.2.2.2.1, .int v0.2.2.2.2.2.2.2.2.1, .int v0.2.2.2.2.2.2.2.2.2.1, .int v0.2.2.2.2.2.2.2.2.2.2.1, .int v0.2.2.2.2.2.2.2.2.2.2.2.1, .ref a0.2.2.2.2.2, .int v0.2.2.2.2.2.2.2.2.2.2.2.2.2]))], [(a0.2.1, .inl (cA, v0.1.1, .inl v0.1.2))], [(a0.2.2.1, .inl (cA, v0.2.1.1, .inl v0.2.1.2))], [(a0.2.2.2.1, .inl (cA, v0.2.2.2.2.1.1, .inl v0.2.2.2.2.1.2))], [(a0.2.2.2.2.1, .inl (cA, v0.2.2.2.2.2.2.2.1.1, .inl v0.2.2.2.2.2.2.2.1.2))], [(a0.2.2.2.2.2, .inl (cA, v0.2.2.2.2.2.2.2.2.2.2.2.2.1.1, .inl z22_1))]] H locs → lv_has ls 6 [(0, .ref a0.1), (1, .int z2_0), (2, .int z22_0), (3, .int z72_0), (4, .int z72_1)] → (∀ (y105 : Int32 × Int32), o510 = y105 → ∀ (H : Heap) (locs : List Loc) (ls : Array Slot), ww A s.heap D [[(a0.1, .inr (11, [.ref a0.2.1, .ref a0.2.2.1, .int v0.2.2.1, .int v0.2.2.2.1, .ref a0.2.2.2.1, .int v0.2.2.2.2.2.1, .int v0.2.2.2.2.2.2.1, .ref a0.2.2.2.2.1, .int v0.2.2.2.2.2.2.2.2.1, .int v0.2.2.2.2.2.2.2.2.2.1, .int v0.2.2.2.2.2.2.2.2.2.2.1, .int v0.2.2.2.2.2.2.2.2.2.2.2.1, .ref a0.2.2.2.2.2, .int v0.2.2.2.2.2.2.2.2.2.2.2.2.2]))], [(a0.2.1, .inl (cA, v0.1.1, .inl v0.1.2))], [(a0.2.2.1, .inl (cA, v0.2.1.1, .inl v0.2.1.2))], [(a0.2.2.2.1, .inl (cA, v0.2.2.2.2.1.1, .inl v0.2.2.2.2.1.2))], [(a0.2.2.2.2.1, .inl (cA, v0.2.2.2.2.2.2.2.1.1, .inl v0.2.2.2.2.2.2.2.1.2))], [(a0.2.2.2.2.2, .inl (cA, v0.2.2.2.2.2.2.2.2.2.2.2.2.1.1, .inl z22_1))]] H locs → lv_has ls 6 [(0, .ref a0.1), (1, .int z2_0), (2, .int z22_0), (3, .int y105.1), (4, .int y105.2)] → W p l e rX11_laysChains s m args below meth c H locs 0 0 Q (F0 m 105 ls [])) → W p l e rX11_laysChains s m args below meth c H locs 0 0 Q (F0 m 72 ls []) := by
                  intro n72
                  induction n72 with
                  | zero => intro z72_0 z72_1 o510 hsp; cases hsp
                  | succ n72 ih72 =>
                    intro z72_0 z72_1 o510 hsp H locs ls hw hl kx72_105
                    have hsp : (if z2_0 ≤ z72_1 then (some (z72_0, z72_1)) else (((if z72_0 = 0 then (some (0 : Int32)) else (grd (vp_in z72_1 v0.2.2.2.2.2.2.2.2.2.2.2.2.1.1) (if (z22_1 z72_1.toNatClampNeg) = z22_0 then (some (0 : Int32)) else (some (1 : Int32))))) : Option (Int32)).bind (fun j515 => (qX11_laysChains_72 v0 z2_0 z22_0 z22_1 n72 j515 (z72_1 + 1))))) = some o510 := hsp
                    refine lv_iload hx hb dX11_laysChains_72 (lv_at hl 4 rfl) ?_
                    refine lv_iload_n hx hb dX11_laysChains_74 rfl (lv_at hl 1 rfl) ?_
                    refine lv_icmp_ge (tgt := 105) hx hb dX11_laysChains_75 (by decide) (fun c511 => ?_) (fun c511 => ?_)
                    · have hsp := ift c511 hsp
                      have hsp := Option.some.inj hsp
                      subst hsp
                      exact kx72_105 _ rfl _ _ _ hw (lv_sub hl [0, 1, 2, 3, 4] rfl)
                    · have hsp := iff_ c511 hsp
                      refine lv_iload_n hx hb dX11_laysChains_78 rfl (lv_at hl 3 rfl) ?_
                      obtain ⟨j515, hsj515, hkj515⟩ := bnd_of hsp
                      have Jj515 : ∀ (H : Heap) (locs : List Loc) (ls : Array Slot), ww A s.heap D [[(a0.1, .inr (11, [.ref a0.2.1, .ref a0.2.2.1, .int v0.2.2.1, .int v0.2.2.2.1, .ref a0.2.2.2.1, .int v0.2.2.2.2.2.1, .int v0.2.2.2.2.2.2.1, .ref a0.2.2.2.2.1, .int v0.2.2.2.2.2.2.2.2.1, .int v0.2.2.2.2.2.2.2.2.2.1, .int v0.2.2.2.2.2.2.2.2.2.2.1, .int v0.2.2.2.2.2.2.2.2.2.2.2.1, .ref a0.2.2.2.2.2, .int v0.2.2.2.2.2.2.2.2.2.2.2.2.2]))], [(a0.2.1, .inl (cA, v0.1.1, .inl v0.1.2))], [(a0.2.2.1, .inl (cA, v0.2.1.1, .inl v0.2.1.2))], [(a0.2.2.2.1, .inl (cA, v0.2.2.2.2.1.1, .inl v0.2.2.2.2.1.2))], [(a0.2.2.2.2.1, .inl (cA, v0.2.2.2.2.2.2.2.1.1, .inl v0.2.2.2.2.2.2.2.1.2))], [(a0.2.2.2.2.2, .inl (cA, v0.2.2.2.2.2.2.2.2.2.2.2.2.1.1, .inl z22_1))]] H locs → lv_has ls 6 [(0, .ref a0.1), (1, .int z2_0), (2, .int z22_0), (3, .int z72_0), (4, .int z72_1)] → W p l e rX11_laysChains s m args below meth c H locs 0 0 Q (F0 m 98 ls [.int j515]) := by
                        intro H locs ls hw hl
                        have hsp := hkj515
                        refine lv_istore_n (lv' := [(3, .int j515), (0, .ref a0.1), (1, .int z2_0), (2, .int z22_0), (4, .int z72_1)]) hx hb dX11_laysChains_98 rfl hl (by decide) rfl (fun ls hl => ?_)
                        refine lv_iinc (v := (z72_1 + 1)) (lv' := [(4, .int (z72_1 + 1)), (3, .int j515), (0, .ref a0.1), (1, .int z2_0), (2, .int z22_0)]) hx hb dX11_laysChains_99 hl (k := 4) rfl rfl (by decide) rfl (fun ls hl => ?_)
                        refine lv_goto (tgt := 72) hx hb dX11_laysChains_102 (by decide) ?_
                        exact ih72 j515 (z72_1 + 1) _ hsp _ _ _ hw (lv_sub hl [2, 3, 4, 1, 0] rfl) kx72_105
                      have hsp := hsj515
                      refine lv_if_eq (tgt := 97) hx hb dX11_laysChains_79 (by decide) (fun c516 => ?_) (fun c516 => ?_)
                      · have hsp := ift c516 hsp
                        refine lv_iconst (v := 0) hx hb dX11_laysChains_97 (by decide) ?_
                        have hsp := Option.some.inj hsp
                        subst hsp
                        exact Jj515 _ _ _ hw (lv_sub hl [0, 1, 2, 3, 4] rfl)
                      · have hsp := iff_ c516 hsp
                        refine lv_aload_n hx hb dX11_laysChains_82 rfl (lv_at hl 0 rfl) ?_
                        refine k_get (ci := 11) (v := .ref a0.2.2.2.2.2) (C := RX11) (T := TX11) (N := 14) hx hb hts hown hz hw (by decide +kernel) 0 rfl rfl 12 (by decide) (hts (.fieldLink RX11 22 "OccupancyMonitorModel" "before" "[I") (by decide +kernel)) (fun _ h9 => h9) rfl dX11_laysChains_83 ?_
                        refine lv_iload hx hb dX11_laysChains_86 (lv_at hl 4 rfl) ?_
                        obtain ⟨g517, hsp⟩ := grd_of hsp
                        refine k_iald hx hb hz hw 5 rfl g517 dX11_laysChains_88 ?_
                        refine lv_iload_n hx hb dX11_laysChains_89 rfl (lv_at hl 2 rfl) ?_
                        refine lv_icmp_eq (tgt := 97) hx hb dX11_laysChains_90 (by decide) (fun c518 => ?_) (fun c518 => ?_)
                        · have hsp := ift c518 hsp
                          refine lv_iconst (v := 0) hx hb dX11_laysChains_97 (by decide) ?_
                          have hsp := Option.some.inj hsp
                          subst hsp
                          exact Jj515 _ _ _ hw (lv_sub hl [0, 1, 2, 3, 4] rfl)
                        · have hsp := iff_ c518 hsp
                          refine lv_iconst (v := 1) hx hb dX11_laysChains_93 (by decide) ?_
                          refine lv_goto (tgt := 98) hx hb dX11_laysChains_94 (by decide) ?_
                          have hsp := Option.some.inj hsp
                          subst hsp
                          exact Jj515 _ _ _ hw (lv_sub hl [0, 1, 2, 3, 4] rfl)
                obtain ⟨o510, hso510, hsp⟩ := bnd_of hsp
                refine L72 N j493 (0 : Int32) _ hso510 _ _ _ hw (lv_sub hl [2, 3, 4, 1, 0] rfl) (fun y105 hy105 H locs ls hw hl => ?_)
                cases hy105
                refine lv_aload_n hx hb dX11_laysChains_105 rfl (lv_at hl 0 rfl) ?_
                refine k_get (ci := 11) (v := .ref a0.2.1) (C := RX11) (T := TX11) (N := 14) hx hb hts hown hz hw (by decide +kernel) 0 rfl rfl 0 (by decide) (hts (.fieldLink RX11 7 "OccupancyMonitorModel" "all" "[I") (by decide +kernel)) (fun _ h9 => h9) rfl dX11_laysChains_106 ?_
                refine lv_iload_n hx hb dX11_laysChains_109 rfl (lv_at hl 1 rfl) ?_
                refine lv_iconst (v := 1) hx hb dX11_laysChains_110 (by decide) ?_
                obtain ⟨o519, hso519, hsp⟩ := bnd_of hsp
                refine k_callS (nA := 2) (As := [.int z2_0, .int (1 : Int32)]) (cs := []) (rs := [[(a0.1, .inr (11, [.ref a0.2.1, .ref a0.2.2.1, .int v0.2.2.1, .int v0.2.2.2.1, .ref a0.2.2.2.1, .int v0.2.2.2.2.2.1, .int v0.2.2.2.2.2.2.1, .ref a0.2.2.2.2.1, .int v0.2.2.2.2.2.2.2.2.1, .int v0.2.2.2.2.2.2.2.2.2.1, .int v0.2.2.2.2.2.2.2.2.2.2.1, .int v0.2.2.2.2.2.2.2.2.2.2.2.1, .ref a0.2.2.2.2.2, .int v0.2.2.2.2.2.2.2.2.2.2.2.2.2]))], [(a0.2.1, .inl (cA, v0.1.1, .inl v0.1.2))], [(a0.2.2.1, .inl (cA, v0.2.1.1, .inl v0.2.1.2))], [(a0.2.2.2.1, .inl (cA, v0.2.2.2.2.1.1, .inl v0.2.2.2.2.1.2))], [(a0.2.2.2.2.1, .inl (cA, v0.2.2.2.2.2.2.2.1.1, .inl v0.2.2.2.2.2.2.2.1.2))], [(a0.2.2.2.2.2, .inl (cA, v0.2.2.2.2.2.2.2.2.2.2.2.2.1.1, .inl z22_1))]]) (cs1 := []) (bs1 := [[(a0.1, .inr (11, [.ref a0.2.1, .ref a0.2.2.1, .int v0.2.2.1, .int v0.2.2.2.1, .ref a0.2.2.2.1, .int v0.2.2.2.2.2.1, .int v0.2.2.2.2.2.2.1, .ref a0.2.2.2.2.1, .int v0.2.2.2.2.2.2.2.2.1, .int v0.2.2.2.2.2.2.2.2.2.1, .int v0.2.2.2.2.2.2.2.2.2.2.1, .int v0.2.2.2.2.2.2.2.2.2.2.2.1, .ref a0.2.2.2.2.2, .int v0.2.2.2.2.2.2.2.2.2.2.2.2.2]))], [(a0.2.1, .inl (cA, v0.1.1, .inl v0.1.2))], [(a0.2.2.1, .inl (cA, v0.2.1.1, .inl v0.2.1.2))], [(a0.2.2.2.1, .inl (cA, v0.2.2.2.2.1.1, .inl v0.2.2.2.2.1.2))], [(a0.2.2.2.2.1, .inl (cA, v0.2.2.2.2.2.2.2.1.1, .inl v0.2.2.2.2.2.2.2.1.2))], [(a0.2.2.2.2.2, .inl (cA, v0.2.2.2.2.2.2.2.2.2.2.2.2.1.1, .inl z22_1))]]) (rest := [.ref a0.2.1]) (st1 := [.int o519, .ref a0.2.1]) ⟨hx, hb, hml, hown, hts⟩ hz hw hA (mX11_eventAt l D cA cR z2_0 (1 : Int32) o519 hso519) gX11_laysChains_X11_eventAt rfl rfl rfl (by decide +kernel) rfl ⟨Nat.le_of_ble_eq_true rfl, Nat.le_of_ble_eq_true rfl⟩ hl.1 rfl (Nat.le_of_ble_eq_true rfl) dX11_laysChains_111 ⟨Nat.le_of_ble_eq_true rfl, Nat.le_of_ble_eq_true rfl⟩ [] [0, 1, 2, 3, 4, 5] [0, 1, 2, 3, 4, 5] rfl rfl rfl rfl rfl rfl (fun H locs hw => ?_)
                obtain ⟨g520, hsp⟩ := grd_of hsp
                refine k_iald hx hb hz hw 1 rfl g520 dX11_laysChains_114 ?_
                refine lv_aload_n hx hb dX11_laysChains_115 rfl (lv_at hl 0 rfl) ?_
                refine k_get (ci := 11) (v := .ref a0.2.1) (C := RX11) (T := TX11) (N := 14) hx hb hts hown hz hw (by decide +kernel) 0 rfl rfl 0 (by decide) (hts (.fieldLink RX11 7 "OccupancyMonitorModel" "all" "[I") (by decide +kernel)) (fun _ h9 => h9) rfl dX11_laysChains_116 ?_
                refine lv_iload_n hx hb dX11_laysChains_119 rfl (lv_at hl 2 rfl) ?_
                refine lv_iconst (v := 2) hx hb dX11_laysChains_120 (by decide) ?_
                obtain ⟨o521, hso521, hsp⟩ := bnd_of hsp
                refine k_callS (nA := 2) (As := [.int z22_0, .int (2 : Int32)]) (cs := []) (rs := [[(a0.1, .inr (11, [.ref a0.2.1, .ref a0.2.2.1, .int v0.2.2.1, .int v0.2.2.2.1, .ref a0.2.2.2.1, .int v0.2.2.2.2.2.1, .int v0.2.2.2.2.2.2.1, .ref a0.2.2.2.2.1, .int v0.2.2.2.2.2.2.2.2.1, .int v0.2.2.2.2.2.2.2.2.2.1, .int v0.2.2.2.2.2.2.2.2.2.2.1, .int v0.2.2.2.2.2.2.2.2.2.2.2.1, .ref a0.2.2.2.2.2, .int v0.2.2.2.2.2.2.2.2.2.2.2.2.2]))], [(a0.2.1, .inl (cA, v0.1.1, .inl v0.1.2))], [(a0.2.2.1, .inl (cA, v0.2.1.1, .inl v0.2.1.2))], [(a0.2.2.2.1, .inl (cA, v0.2.2.2.2.1.1, .inl v0.2.2.2.2.1.2))], [(a0.2.2.2.2.1, .inl (cA, v0.2.2.2.2.2.2.2.1.1, .inl v0.2.2.2.2.2.2.2.1.2))], [(a0.2.2.2.2.2, .inl (cA, v0.2.2.2.2.2.2.2.2.2.2.2.2.1.1, .inl z22_1))]]) (cs1 := []) (bs1 := [[(a0.1, .inr (11, [.ref a0.2.1, .ref a0.2.2.1, .int v0.2.2.1, .int v0.2.2.2.1, .ref a0.2.2.2.1, .int v0.2.2.2.2.2.1, .int v0.2.2.2.2.2.2.1, .ref a0.2.2.2.2.1, .int v0.2.2.2.2.2.2.2.2.1, .int v0.2.2.2.2.2.2.2.2.2.1, .int v0.2.2.2.2.2.2.2.2.2.2.1, .int v0.2.2.2.2.2.2.2.2.2.2.2.1, .ref a0.2.2.2.2.2, .int v0.2.2.2.2.2.2.2.2.2.2.2.2.2]))], [(a0.2.1, .inl (cA, v0.1.1, .inl v0.1.2))], [(a0.2.2.1, .inl (cA, v0.2.1.1, .inl v0.2.1.2))], [(a0.2.2.2.1, .inl (cA, v0.2.2.2.2.1.1, .inl v0.2.2.2.2.1.2))], [(a0.2.2.2.2.1, .inl (cA, v0.2.2.2.2.2.2.2.1.1, .inl v0.2.2.2.2.2.2.2.1.2))], [(a0.2.2.2.2.2, .inl (cA, v0.2.2.2.2.2.2.2.2.2.2.2.2.1.1, .inl z22_1))]]) (rest := [.ref a0.2.1, .int (v0.1.2 o519.toNatClampNeg)]) (st1 := [.int o521, .ref a0.2.1, .int (v0.1.2 o519.toNatClampNeg)]) ⟨hx, hb, hml, hown, hts⟩ hz hw hA (mX11_eventAt l D cA cR z22_0 (2 : Int32) o521 hso521) gX11_laysChains_X11_eventAt rfl rfl rfl (by decide +kernel) rfl ⟨Nat.le_of_ble_eq_true rfl, Nat.le_of_ble_eq_true rfl⟩ hl.1 rfl (Nat.le_of_ble_eq_true rfl) dX11_laysChains_121 ⟨Nat.le_of_ble_eq_true rfl, Nat.le_of_ble_eq_true rfl⟩ [] [0, 1, 2, 3, 4, 5] [0, 1, 2, 3, 4, 5] rfl rfl rfl rfl rfl rfl (fun H locs hw => ?_)
                obtain ⟨g522, hsp⟩ := grd_of hsp
                refine k_iald hx hb hz hw 1 rfl g522 dX11_laysChains_124 ?_
                refine lv_isub hx hb dX11_laysChains_125 ?_
                refine lv_istore (lv' := [(4, .int ((v0.1.2 o519.toNatClampNeg) - (v0.1.2 o521.toNatClampNeg))), (0, .ref a0.1), (1, .int z2_0), (2, .int z22_0), (3, .int o510.1)]) hx hb dX11_laysChains_126 hl (by decide) rfl (fun ls hl => ?_)
                refine lv_iload_n hx hb dX11_laysChains_128 rfl (lv_at hl 4 rfl) ?_
                obtain ⟨j534, hsj534, hkj534⟩ := bnd_of hsp
                have Jj534 : ∀ (H : Heap) (locs : List Loc) (ls : Array Slot), ww A s.heap D [[(a0.1, .inr (11, [.ref a0.2.1, .ref a0.2.2.1, .int v0.2.2.1, .int v0.2.2.2.1, .ref a0.2.2.2.1, .int v0.2.2.2.2.2.1, .int v0.2.2.2.2.2.2.1, .ref a0.2.2.2.2.1, .int v0.2.2.2.2.2.2.2.2.1, .int v0.2.2.2.2.2.2.2.2.2.1, .int v0.2.2.2.2.2.2.2.2.2.2.1, .int v0.2.2.2.2.2.2.2.2.2.2.2.1, .ref a0.2.2.2.2.2, .int v0.2.2.2.2.2.2.2.2.2.2.2.2.2]))], [(a0.2.1, .inl (cA, v0.1.1, .inl v0.1.2))], [(a0.2.2.1, .inl (cA, v0.2.1.1, .inl v0.2.1.2))], [(a0.2.2.2.1, .inl (cA, v0.2.2.2.2.1.1, .inl v0.2.2.2.2.1.2))], [(a0.2.2.2.2.1, .inl (cA, v0.2.2.2.2.2.2.2.1.1, .inl v0.2.2.2.2.2.2.2.1.2))], [(a0.2.2.2.2.2, .inl (cA, v0.2.2.2.2.2.2.2.2.2.2.2.2.1.1, .inl z22_1))]] H locs → lv_has ls 6 [(0, .ref a0.1), (1, .int z2_0), (2, .int z22_0), (3, .int o510.1), (4, .int ((v0.1.2 o519.toNatClampNeg) - (v0.1.2 o521.toNatClampNeg)))] → W p l e rX11_laysChains s m args below meth c H locs 0 0 Q (F0 m 186 ls [.int j534]) := by
                  intro H locs ls hw hl
                  have hsp := hkj534
                  refine lv_istore (lv' := [(5, .int j534), (0, .ref a0.1), (1, .int z2_0), (2, .int z22_0), (3, .int o510.1), (4, .int ((v0.1.2 o519.toNatClampNeg) - (v0.1.2 o521.toNatClampNeg)))]) hx hb dX11_laysChains_186 hl (by decide) rfl (fun ls hl => ?_)
                  refine lv_aload_n hx hb dX11_laysChains_188 rfl (lv_at hl 1 rfl) ?_
                  refine k_get (ci := 11) (v := .ref a0.2.2.2.2.2) (C := RX11) (T := TX11) (N := 14) hx hb hts hown hz hw (by decide +kernel) 0 rfl rfl 12 (by decide) (hts (.fieldLink RX11 22 "OccupancyMonitorModel" "before" "[I") (by decide +kernel)) (fun _ h9 => h9) rfl dX11_laysChains_189 ?_
                  refine lv_iload_n hx hb dX11_laysChains_192 rfl (lv_at hl 2 rfl) ?_
                  refine lv_iload hx hb dX11_laysChains_193 (lv_at hl 0 rfl) ?_
                  obtain ⟨j546, hsj546, hkj546⟩ := bnd_of hsp
                  have Jj546 : ∀ (H : Heap) (locs : List Loc) (ls : Array Slot), ww A s.heap D [[(a0.1, .inr (11, [.ref a0.2.1, .ref a0.2.2.1, .int v0.2.2.1, .int v0.2.2.2.1, .ref a0.2.2.2.1, .int v0.2.2.2.2.2.1, .int v0.2.2.2.2.2.2.1, .ref a0.2.2.2.2.1, .int v0.2.2.2.2.2.2.2.2.1, .int v0.2.2.2.2.2.2.2.2.2.1, .int v0.2.2.2.2.2.2.2.2.2.2.1, .int v0.2.2.2.2.2.2.2.2.2.2.2.1, .ref a0.2.2.2.2.2, .int v0.2.2.2.2.2.2.2.2.2.2.2.2.2]))], [(a0.2.1, .inl (cA, v0.1.1, .inl v0.1.2))], [(a0.2.2.1, .inl (cA, v0.2.1.1, .inl v0.2.1.2))], [(a0.2.2.2.1, .inl (cA, v0.2.2.2.2.1.1, .inl v0.2.2.2.2.1.2))], [(a0.2.2.2.2.1, .inl (cA, v0.2.2.2.2.2.2.2.1.1, .inl v0.2.2.2.2.2.2.2.1.2))], [(a0.2.2.2.2.2, .inl (cA, v0.2.2.2.2.2.2.2.2.2.2.2.2.1.1, .inl z22_1))]] H locs → lv_has ls 6 [(0, .ref a0.1), (1, .int z2_0), (2, .int z22_0), (3, .int o510.1), (4, .int ((v0.1.2 o519.toNatClampNeg) - (v0.1.2 o521.toNatClampNeg))), (5, .int j534)] → W p l e rX11_laysChains s m args below meth c H locs 0 0 Q (F0 m 246 ls [.int j546, .int z2_0, .ref a0.2.2.2.2.2]) := by
                    intro H locs ls hw hl
                    have hsp := hkj546
                    obtain ⟨g547, hsp⟩ := grd_of hsp
                    obtain ⟨f548, ef548⟩ : ∃ u : Nat → Int32, u = (upd z22_1 z2_0.toNatClampNeg j546) := ⟨_, rfl⟩
                    have hsp := lt_of hsp ef548
                    refine k_iast (bs1 := [[(a0.1, .inr (11, [.ref a0.2.1, .ref a0.2.2.1, .int v0.2.2.1, .int v0.2.2.2.1, .ref a0.2.2.2.1, .int v0.2.2.2.2.2.1, .int v0.2.2.2.2.2.2.1, .ref a0.2.2.2.2.1, .int v0.2.2.2.2.2.2.2.2.1, .int v0.2.2.2.2.2.2.2.2.2.1, .int v0.2.2.2.2.2.2.2.2.2.2.1, .int v0.2.2.2.2.2.2.2.2.2.2.2.1, .ref a0.2.2.2.2.2, .int v0.2.2.2.2.2.2.2.2.2.2.2.2.2]))], [(a0.2.1, .inl (cA, v0.1.1, .inl v0.1.2))], [(a0.2.2.1, .inl (cA, v0.2.1.1, .inl v0.2.1.2))], [(a0.2.2.2.1, .inl (cA, v0.2.2.2.2.1.1, .inl v0.2.2.2.2.1.2))], [(a0.2.2.2.2.1, .inl (cA, v0.2.2.2.2.2.2.2.1.1, .inl v0.2.2.2.2.2.2.2.1.2))], [(a0.2.2.2.2.2, .inl (cA, v0.2.2.2.2.2.2.2.2.2.2.2.2.1.1, .inl f548))]]) hx hb hz hw 5 rfl g547 dX11_laysChains_246 (by rw [ef548]; rfl) (fun H locs hw => ?_)
                    refine lv_iinc (v := (z22_0 + 1)) (lv' := [(2, .int (z22_0 + 1)), (0, .ref a0.1), (1, .int z2_0), (3, .int o510.1), (4, .int ((v0.1.2 o519.toNatClampNeg) - (v0.1.2 o521.toNatClampNeg))), (5, .int j534)]) hx hb dX11_laysChains_247 hl (k := 2) rfl rfl (by decide) rfl (fun ls hl => ?_)
                    refine lv_goto (tgt := 22) hx hb dX11_laysChains_250 (by decide) ?_
                    exact ih22 (z22_0 + 1) f548 _ hsp _ _ _ hw (lv_sub hl [1, 2, 0] rfl) kx22_253
                  have hsp := hsj546
                  refine lv_if_eq (tgt := 240) hx hb dX11_laysChains_195 (by decide) (fun c549 => ?_) (fun c549 => ?_)
                  · have hsp := ift c549 hsp
                    refine lv_aload_n hx hb dX11_laysChains_240 rfl (lv_at hl 1 rfl) ?_
                    refine k_get (ci := 11) (v := .ref a0.2.2.2.2.2) (C := RX11) (T := TX11) (N := 14) hx hb hts hown hz hw (by decide +kernel) 0 rfl rfl 12 (by decide) (hts (.fieldLink RX11 22 "OccupancyMonitorModel" "before" "[I") (by decide +kernel)) (fun _ h9 => h9) rfl dX11_laysChains_241 ?_
                    refine lv_iload_n hx hb dX11_laysChains_244 rfl (lv_at hl 2 rfl) ?_
                    obtain ⟨g550, hsp⟩ := grd_of hsp
                    refine k_iald hx hb hz hw 5 rfl g550 dX11_laysChains_245 ?_
                    have hsp := Option.some.inj hsp
                    subst hsp
                    exact Jj546 _ _ _ hw (lv_sub hl [1, 2, 3, 4, 5, 0] rfl)
                  · have hsp := iff_ c549 hsp
                    refine lv_aload_n hx hb dX11_laysChains_198 rfl (lv_at hl 1 rfl) ?_
                    refine k_get (ci := 11) (v := .ref a0.2.2.2.2.2) (C := RX11) (T := TX11) (N := 14) hx hb hts hown hz hw (by decide +kernel) 0 rfl rfl 12 (by decide) (hts (.fieldLink RX11 22 "OccupancyMonitorModel" "before" "[I") (by decide +kernel)) (fun _ h9 => h9) rfl dX11_laysChains_199 ?_
                    refine lv_iload_n hx hb dX11_laysChains_202 rfl (lv_at hl 2 rfl) ?_
                    obtain ⟨g551, hsp⟩ := grd_of hsp
                    refine k_iald hx hb hz hw 5 rfl g551 dX11_laysChains_203 ?_
                    refine lv_iconst (v := -1) hx hb dX11_laysChains_204 (by decide) ?_
                    refine lv_icmp_eq (tgt := 236) hx hb dX11_laysChains_205 (by decide) (fun c552 => ?_) (fun c552 => ?_)
                    · have hsp := ift c552 hsp
                      refine lv_iload_n hx hb dX11_laysChains_236 rfl (lv_at hl 3 rfl) ?_
                      refine lv_goto (tgt := 246) hx hb dX11_laysChains_237 (by decide) ?_
                      have hsp := Option.some.inj hsp
                      subst hsp
                      exact Jj546 _ _ _ hw (lv_sub hl [1, 2, 3, 4, 5, 0] rfl)
                    · have hsp := iff_ c552 hsp
                      refine lv_aload_n hx hb dX11_laysChains_208 rfl (lv_at hl 1 rfl) ?_
                      refine k_get (ci := 11) (v := .ref a0.2.1) (C := RX11) (T := TX11) (N := 14) hx hb hts hown hz hw (by decide +kernel) 0 rfl rfl 0 (by decide) (hts (.fieldLink RX11 7 "OccupancyMonitorModel" "all" "[I") (by decide +kernel)) (fun _ h9 => h9) rfl dX11_laysChains_209 ?_
                      refine lv_iload_n hx hb dX11_laysChains_212 rfl (lv_at hl 3 rfl) ?_
                      refine lv_iconst (v := 2) hx hb dX11_laysChains_213 (by decide) ?_
                      obtain ⟨o553, hso553, hsp⟩ := bnd_of hsp
                      refine k_callS (nA := 2) (As := [.int z22_0, .int (2 : Int32)]) (cs := []) (rs := [[(a0.1, .inr (11, [.ref a0.2.1, .ref a0.2.2.1, .int v0.2.2.1, .int v0.2.2.2.1, .ref a0.2.2.2.1, .int v0.2.2.2.2.2.1, .int v0.2.2.2.2.2.2.1, .ref a0.2.2.2.2.1, .int v0.2.2.2.2.2.2.2.2.1, .int v0.2.2.2.2.2.2.2.2.2.1, .int v0.2.2.2.2.2.2.2.2.2.2.1, .int v0.2.2.2.2.2.2.2.2.2.2.2.1, .ref a0.2.2.2.2.2, .int v0.2.2.2.2.2.2.2.2.2.2.2.2.2]))], [(a0.2.1, .inl (cA, v0.1.1, .inl v0.1.2))], [(a0.2.2.1, .inl (cA, v0.2.1.1, .inl v0.2.1.2))], [(a0.2.2.2.1, .inl (cA, v0.2.2.2.2.1.1, .inl v0.2.2.2.2.1.2))], [(a0.2.2.2.2.1, .inl (cA, v0.2.2.2.2.2.2.2.1.1, .inl v0.2.2.2.2.2.2.2.1.2))], [(a0.2.2.2.2.2, .inl (cA, v0.2.2.2.2.2.2.2.2.2.2.2.2.1.1, .inl z22_1))]]) (cs1 := []) (bs1 := [[(a0.1, .inr (11, [.ref a0.2.1, .ref a0.2.2.1, .int v0.2.2.1, .int v0.2.2.2.1, .ref a0.2.2.2.1, .int v0.2.2.2.2.2.1, .int v0.2.2.2.2.2.2.1, .ref a0.2.2.2.2.1, .int v0.2.2.2.2.2.2.2.2.1, .int v0.2.2.2.2.2.2.2.2.2.1, .int v0.2.2.2.2.2.2.2.2.2.2.1, .int v0.2.2.2.2.2.2.2.2.2.2.2.1, .ref a0.2.2.2.2.2, .int v0.2.2.2.2.2.2.2.2.2.2.2.2.2]))], [(a0.2.1, .inl (cA, v0.1.1, .inl v0.1.2))], [(a0.2.2.1, .inl (cA, v0.2.1.1, .inl v0.2.1.2))], [(a0.2.2.2.1, .inl (cA, v0.2.2.2.2.1.1, .inl v0.2.2.2.2.1.2))], [(a0.2.2.2.2.1, .inl (cA, v0.2.2.2.2.2.2.2.1.1, .inl v0.2.2.2.2.2.2.2.1.2))], [(a0.2.2.2.2.2, .inl (cA, v0.2.2.2.2.2.2.2.2.2.2.2.2.1.1, .inl z22_1))]]) (rest := [.ref a0.2.1, .int z2_0, .ref a0.2.2.2.2.2]) (st1 := [.int o553, .ref a0.2.1, .int z2_0, .ref a0.2.2.2.2.2]) ⟨hx, hb, hml, hown, hts⟩ hz hw hA (mX11_eventAt l D cA cR z22_0 (2 : Int32) o553 hso553) gX11_laysChains_X11_eventAt rfl rfl rfl (by decide +kernel) rfl ⟨Nat.le_of_ble_eq_true rfl, Nat.le_of_ble_eq_true rfl⟩ hl.1 rfl (Nat.le_of_ble_eq_true rfl) dX11_laysChains_214 ⟨Nat.le_of_ble_eq_true rfl, Nat.le_of_ble_eq_true rfl⟩ [] [0, 1, 2, 3, 4, 5] [0, 1, 2, 3, 4, 5] rfl rfl rfl rfl rfl rfl (fun H locs hw => ?_)
                      obtain ⟨g554, hsp⟩ := grd_of hsp
                      refine k_iald hx hb hz hw 1 rfl g554 dX11_laysChains_217 ?_
                      refine lv_aload_n hx hb dX11_laysChains_218 rfl (lv_at hl 1 rfl) ?_
                      refine k_get (ci := 11) (v := .ref a0.2.1) (C := RX11) (T := TX11) (N := 14) hx hb hts hown hz hw (by decide +kernel) 0 rfl rfl 0 (by decide) (hts (.fieldLink RX11 7 "OccupancyMonitorModel" "all" "[I") (by decide +kernel)) (fun _ h9 => h9) rfl dX11_laysChains_219 ?_
                      refine lv_aload_n hx hb dX11_laysChains_222 rfl (lv_at hl 1 rfl) ?_
                      refine k_get (ci := 11) (v := .ref a0.2.2.2.2.2) (C := RX11) (T := TX11) (N := 14) hx hb hts hown hz hw (by decide +kernel) 0 rfl rfl 12 (by decide) (hts (.fieldLink RX11 22 "OccupancyMonitorModel" "before" "[I") (by decide +kernel)) (fun _ h9 => h9) rfl dX11_laysChains_223 ?_
                      refine lv_iload_n hx hb dX11_laysChains_226 rfl (lv_at hl 2 rfl) ?_
                      obtain ⟨g555, hsp⟩ := grd_of hsp
                      refine k_iald hx hb hz hw 5 rfl g555 dX11_laysChains_227 ?_
                      refine lv_iconst (v := 2) hx hb dX11_laysChains_228 (by decide) ?_
                      obtain ⟨o556, hso556, hsp⟩ := bnd_of hsp
                      refine k_callS (nA := 2) (As := [.int (z22_1 z2_0.toNatClampNeg), .int (2 : Int32)]) (cs := []) (rs := [[(a0.1, .inr (11, [.ref a0.2.1, .ref a0.2.2.1, .int v0.2.2.1, .int v0.2.2.2.1, .ref a0.2.2.2.1, .int v0.2.2.2.2.2.1, .int v0.2.2.2.2.2.2.1, .ref a0.2.2.2.2.1, .int v0.2.2.2.2.2.2.2.2.1, .int v0.2.2.2.2.2.2.2.2.2.1, .int v0.2.2.2.2.2.2.2.2.2.2.1, .int v0.2.2.2.2.2.2.2.2.2.2.2.1, .ref a0.2.2.2.2.2, .int v0.2.2.2.2.2.2.2.2.2.2.2.2.2]))], [(a0.2.1, .inl (cA, v0.1.1, .inl v0.1.2))], [(a0.2.2.1, .inl (cA, v0.2.1.1, .inl v0.2.1.2))], [(a0.2.2.2.1, .inl (cA, v0.2.2.2.2.1.1, .inl v0.2.2.2.2.1.2))], [(a0.2.2.2.2.1, .inl (cA, v0.2.2.2.2.2.2.2.1.1, .inl v0.2.2.2.2.2.2.2.1.2))], [(a0.2.2.2.2.2, .inl (cA, v0.2.2.2.2.2.2.2.2.2.2.2.2.1.1, .inl z22_1))]]) (cs1 := []) (bs1 := [[(a0.1, .inr (11, [.ref a0.2.1, .ref a0.2.2.1, .int v0.2.2.1, .int v0.2.2.2.1, .ref a0.2.2.2.1, .int v0.2.2.2.2.2.1, .int v0.2.2.2.2.2.2.1, .ref a0.2.2.2.2.1, .int v0.2.2.2.2.2.2.2.2.1, .int v0.2.2.2.2.2.2.2.2.2.1, .int v0.2.2.2.2.2.2.2.2.2.2.1, .int v0.2.2.2.2.2.2.2.2.2.2.2.1, .ref a0.2.2.2.2.2, .int v0.2.2.2.2.2.2.2.2.2.2.2.2.2]))], [(a0.2.1, .inl (cA, v0.1.1, .inl v0.1.2))], [(a0.2.2.1, .inl (cA, v0.2.1.1, .inl v0.2.1.2))], [(a0.2.2.2.1, .inl (cA, v0.2.2.2.2.1.1, .inl v0.2.2.2.2.1.2))], [(a0.2.2.2.2.1, .inl (cA, v0.2.2.2.2.2.2.2.1.1, .inl v0.2.2.2.2.2.2.2.1.2))], [(a0.2.2.2.2.2, .inl (cA, v0.2.2.2.2.2.2.2.2.2.2.2.2.1.1, .inl z22_1))]]) (rest := [.ref a0.2.1, .int (v0.1.2 o553.toNatClampNeg), .int z2_0, .ref a0.2.2.2.2.2]) (st1 := [.int o556, .ref a0.2.1, .int (v0.1.2 o553.toNatClampNeg), .int z2_0, .ref a0.2.2.2.2.2]) ⟨hx, hb, hml, hown, hts⟩ hz hw hA (mX11_eventAt l D cA cR (z22_1 z2_0.toNatClampNeg) (2 : Int32) o556 hso556) gX11_laysChains_X11_eventAt rfl rfl rfl (by decide +kernel) rfl ⟨Nat.le_of_ble_eq_true rfl, Nat.le_of_ble_eq_true rfl⟩ hl.1 rfl (Nat.le_of_ble_eq_true rfl) dX11_laysChains_229 ⟨Nat.le_of_ble_eq_true rfl, Nat.le_of_ble_eq_true rfl⟩ [] [0, 1, 2, 3, 4, 5] [0, 1, 2, 3, 4, 5] rfl rfl rfl rfl rfl rfl (fun H locs hw => ?_)
                      obtain ⟨g557, hsp⟩ := grd_of hsp
                      refine k_iald hx hb hz hw 1 rfl g557 dX11_laysChains_232 ?_
                      refine lv_icmp_lt (tgt := 240) hx hb dX11_laysChains_233 (by decide) (fun c558 => ?_) (fun c558 => ?_)
                      · have hsp := ift c558 hsp
                        refine lv_aload_n hx hb dX11_laysChains_240 rfl (lv_at hl 1 rfl) ?_
                        refine k_get (ci := 11) (v := .ref a0.2.2.2.2.2) (C := RX11) (T := TX11) (N := 14) hx hb hts hown hz hw (by decide +kernel) 0 rfl rfl 12 (by decide) (hts (.fieldLink RX11 22 "OccupancyMonitorModel" "before" "[I") (by decide +kernel)) (fun _ h9 => h9) rfl dX11_laysChains_241 ?_
                        refine lv_iload_n hx hb dX11_laysChains_244 rfl (lv_at hl 2 rfl) ?_
                        obtain ⟨g559, hsp⟩ := grd_of hsp
                        refine k_iald hx hb hz hw 5 rfl g559 dX11_laysChains_245 ?_
                        have hsp := Option.some.inj hsp
                        subst hsp
                        exact Jj546 _ _ _ hw (lv_sub hl [1, 2, 3, 4, 5, 0] rfl)
                      · have hsp := iff_ c558 hsp
                        refine lv_iload_n hx hb dX11_laysChains_236 rfl (lv_at hl 3 rfl) ?_
                        refine lv_goto (tgt := 246) hx hb dX11_laysChains_237 (by decide) ?_
                        have hsp := Option.some.inj hsp
                        subst hsp
                        exact Jj546 _ _ _ hw (lv_sub hl [1, 2, 3, 4, 5, 0] rfl)
                have hsp := hsj534
                refine lv_if_eq (tgt := 185) hx hb dX11_laysChains_129 (by decide) (fun c560 => ?_) (fun c560 => ?_)
                · have hsp := ift c560 hsp
                  refine lv_iconst (v := 0) hx hb dX11_laysChains_185 (by decide) ?_
                  have hsp := Option.some.inj hsp
                  subst hsp
                  exact Jj534 _ _ _ hw (lv_sub hl [1, 2, 3, 4, 0] rfl)
                · have hsp := iff_ c560 hsp
                  refine lv_iload hx hb dX11_laysChains_132 (lv_at hl 0 rfl) ?_
                  refine lv_i2l hx hb dX11_laysChains_134 rfl ?_
                  refine lv_lconst (v := 1) hx hb dX11_laysChains_135 (by decide) ?_
                  refine lv_aload_n hx hb dX11_laysChains_136 rfl (lv_at hl 1 rfl) ?_
                  refine k_get (ci := 11) (v := .ref a0.2.1) (C := RX11) (T := TX11) (N := 14) hx hb hts hown hz hw (by decide +kernel) 0 rfl rfl 0 (by decide) (hts (.fieldLink RX11 7 "OccupancyMonitorModel" "all" "[I") (by decide +kernel)) (fun _ h9 => h9) rfl dX11_laysChains_137 ?_
                  refine lv_iconst (v := 3) hx hb dX11_laysChains_140 (by decide) ?_
                  obtain ⟨g561, hsp⟩ := grd_of hsp
                  refine k_iald hx hb hz hw 1 rfl g561 dX11_laysChains_141 ?_
                  refine lv_i2l hx hb dX11_laysChains_142 rfl ?_
                  obtain ⟨o562, hso562, hsp⟩ := bnd_of hsp
                  refine k_callS (nA := 3) (As := [.long ((v0.1.2 o519.toNatClampNeg) - (v0.1.2 o521.toNatClampNeg)).toInt64, .long (1 : Int64), .long (v0.1.2 (3 : Int32).toNatClampNeg).toInt64]) (cs := []) (rs := [[(a0.1, .inr (11, [.ref a0.2.1, .ref a0.2.2.1, .int v0.2.2.1, .int v0.2.2.2.1, .ref a0.2.2.2.1, .int v0.2.2.2.2.2.1, .int v0.2.2.2.2.2.2.1, .ref a0.2.2.2.2.1, .int v0.2.2.2.2.2.2.2.2.1, .int v0.2.2.2.2.2.2.2.2.2.1, .int v0.2.2.2.2.2.2.2.2.2.2.1, .int v0.2.2.2.2.2.2.2.2.2.2.2.1, .ref a0.2.2.2.2.2, .int v0.2.2.2.2.2.2.2.2.2.2.2.2.2]))], [(a0.2.1, .inl (cA, v0.1.1, .inl v0.1.2))], [(a0.2.2.1, .inl (cA, v0.2.1.1, .inl v0.2.1.2))], [(a0.2.2.2.1, .inl (cA, v0.2.2.2.2.1.1, .inl v0.2.2.2.2.1.2))], [(a0.2.2.2.2.1, .inl (cA, v0.2.2.2.2.2.2.2.1.1, .inl v0.2.2.2.2.2.2.2.1.2))], [(a0.2.2.2.2.2, .inl (cA, v0.2.2.2.2.2.2.2.2.2.2.2.2.1.1, .inl z22_1))]]) (cs1 := []) (bs1 := [[(a0.1, .inr (11, [.ref a0.2.1, .ref a0.2.2.1, .int v0.2.2.1, .int v0.2.2.2.1, .ref a0.2.2.2.1, .int v0.2.2.2.2.2.1, .int v0.2.2.2.2.2.2.1, .ref a0.2.2.2.2.1, .int v0.2.2.2.2.2.2.2.2.1, .int v0.2.2.2.2.2.2.2.2.2.1, .int v0.2.2.2.2.2.2.2.2.2.2.1, .int v0.2.2.2.2.2.2.2.2.2.2.2.1, .ref a0.2.2.2.2.2, .int v0.2.2.2.2.2.2.2.2.2.2.2.2.2]))], [(a0.2.1, .inl (cA, v0.1.1, .inl v0.1.2))], [(a0.2.2.1, .inl (cA, v0.2.1.1, .inl v0.2.1.2))], [(a0.2.2.2.1, .inl (cA, v0.2.2.2.2.1.1, .inl v0.2.2.2.2.1.2))], [(a0.2.2.2.2.1, .inl (cA, v0.2.2.2.2.2.2.2.1.1, .inl v0.2.2.2.2.2.2.2.1.2))], [(a0.2.2.2.2.2, .inl (cA, v0.2.2.2.2.2.2.2.2.2.2.2.2.1.1, .inl z22_1))]]) (rest := []) (st1 := [.int o562]) ⟨hx, hb, hml, hown, hts⟩ hz hw hA (mX11_in l D cA cR (((v0.1.2 o519.toNatClampNeg) - (v0.1.2 o521.toNatClampNeg)).toInt64) (1 : Int64) ((v0.1.2 (3 : Int32).toNatClampNeg).toInt64) o562 hso562) gX11_laysChains_X11_in rfl rfl rfl (by decide +kernel) rfl ⟨Nat.le_of_ble_eq_true rfl, Nat.le_of_ble_eq_true rfl⟩ hl.1 rfl (Nat.le_of_ble_eq_true rfl) dX11_laysChains_143 ⟨Nat.le_of_ble_eq_true rfl, Nat.le_of_ble_eq_true rfl⟩ [] [0, 1, 2, 3, 4, 5] [0, 1, 2, 3, 4, 5] rfl rfl rfl rfl rfl rfl (fun H locs hw => ?_)
                  refine lv_if_eq (tgt := 185) hx hb dX11_laysChains_146 (by decide) (fun c563 => ?_) (fun c563 => ?_)
                  · have hsp := ift c563 hsp
                    refine lv_iconst (v := 0) hx hb dX11_laysChains_185 (by decide) ?_
                    have hsp := Option.some.inj hsp
                    subst hsp
                    exact Jj534 _ _ _ hw (lv_sub hl [1, 2, 3, 4, 0] rfl)
                  · have hsp := iff_ c563 hsp
                    refine lv_aload_n hx hb dX11_laysChains_149 rfl (lv_at hl 1 rfl) ?_
                    refine k_get (ci := 11) (v := .ref a0.2.1) (C := RX11) (T := TX11) (N := 14) hx hb hts hown hz hw (by decide +kernel) 0 rfl rfl 0 (by decide) (hts (.fieldLink RX11 7 "OccupancyMonitorModel" "all" "[I") (by decide +kernel)) (fun _ h9 => h9) rfl dX11_laysChains_150 ?_
                    refine lv_iload_n hx hb dX11_laysChains_153 rfl (lv_at hl 3 rfl) ?_
                    refine lv_iconst (v := 3) hx hb dX11_laysChains_154 (by decide) ?_
                    obtain ⟨o564, hso564, hsp⟩ := bnd_of hsp
                    refine k_callS (nA := 2) (As := [.int z22_0, .int (3 : Int32)]) (cs := []) (rs := [[(a0.1, .inr (11, [.ref a0.2.1, .ref a0.2.2.1, .int v0.2.2.1, .int v0.2.2.2.1, .ref a0.2.2.2.1, .int v0.2.2.2.2.2.1, .int v0.2.2.2.2.2.2.1, .ref a0.2.2.2.2.1, .int v0.2.2.2.2.2.2.2.2.1, .int v0.2.2.2.2.2.2.2.2.2.1, .int v0.2.2.2.2.2.2.2.2.2.2.1, .int v0.2.2.2.2.2.2.2.2.2.2.2.1, .ref a0.2.2.2.2.2, .int v0.2.2.2.2.2.2.2.2.2.2.2.2.2]))], [(a0.2.1, .inl (cA, v0.1.1, .inl v0.1.2))], [(a0.2.2.1, .inl (cA, v0.2.1.1, .inl v0.2.1.2))], [(a0.2.2.2.1, .inl (cA, v0.2.2.2.2.1.1, .inl v0.2.2.2.2.1.2))], [(a0.2.2.2.2.1, .inl (cA, v0.2.2.2.2.2.2.2.1.1, .inl v0.2.2.2.2.2.2.2.1.2))], [(a0.2.2.2.2.2, .inl (cA, v0.2.2.2.2.2.2.2.2.2.2.2.2.1.1, .inl z22_1))]]) (cs1 := []) (bs1 := [[(a0.1, .inr (11, [.ref a0.2.1, .ref a0.2.2.1, .int v0.2.2.1, .int v0.2.2.2.1, .ref a0.2.2.2.1, .int v0.2.2.2.2.2.1, .int v0.2.2.2.2.2.2.1, .ref a0.2.2.2.2.1, .int v0.2.2.2.2.2.2.2.2.1, .int v0.2.2.2.2.2.2.2.2.2.1, .int v0.2.2.2.2.2.2.2.2.2.2.1, .int v0.2.2.2.2.2.2.2.2.2.2.2.1, .ref a0.2.2.2.2.2, .int v0.2.2.2.2.2.2.2.2.2.2.2.2.2]))], [(a0.2.1, .inl (cA, v0.1.1, .inl v0.1.2))], [(a0.2.2.1, .inl (cA, v0.2.1.1, .inl v0.2.1.2))], [(a0.2.2.2.1, .inl (cA, v0.2.2.2.2.1.1, .inl v0.2.2.2.2.1.2))], [(a0.2.2.2.2.1, .inl (cA, v0.2.2.2.2.2.2.2.1.1, .inl v0.2.2.2.2.2.2.2.1.2))], [(a0.2.2.2.2.2, .inl (cA, v0.2.2.2.2.2.2.2.2.2.2.2.2.1.1, .inl z22_1))]]) (rest := [.ref a0.2.1]) (st1 := [.int o564, .ref a0.2.1]) ⟨hx, hb, hml, hown, hts⟩ hz hw hA (mX11_eventAt l D cA cR z22_0 (3 : Int32) o564 hso564) gX11_laysChains_X11_eventAt rfl rfl rfl (by decide +kernel) rfl ⟨Nat.le_of_ble_eq_true rfl, Nat.le_of_ble_eq_true rfl⟩ hl.1 rfl (Nat.le_of_ble_eq_true rfl) dX11_laysChains_155 ⟨Nat.le_of_ble_eq_true rfl, Nat.le_of_ble_eq_true rfl⟩ [] [0, 1, 2, 3, 4, 5] [0, 1, 2, 3, 4, 5] rfl rfl rfl rfl rfl rfl (fun H locs hw => ?_)
                    obtain ⟨g565, hsp⟩ := grd_of hsp
                    refine k_iald hx hb hz hw 1 rfl g565 dX11_laysChains_158 ?_
                    refine lv_aload_n hx hb dX11_laysChains_159 rfl (lv_at hl 1 rfl) ?_
                    refine k_get (ci := 11) (v := .ref a0.2.1) (C := RX11) (T := TX11) (N := 14) hx hb hts hown hz hw (by decide +kernel) 0 rfl rfl 0 (by decide) (hts (.fieldLink RX11 7 "OccupancyMonitorModel" "all" "[I") (by decide +kernel)) (fun _ h9 => h9) rfl dX11_laysChains_160 ?_
                    refine lv_iload_n hx hb dX11_laysChains_163 rfl (lv_at hl 2 rfl) ?_
                    refine lv_iconst (v := 3) hx hb dX11_laysChains_164 (by decide) ?_
                    obtain ⟨o566, hso566, hsp⟩ := bnd_of hsp
                    refine k_callS (nA := 2) (As := [.int z2_0, .int (3 : Int32)]) (cs := []) (rs := [[(a0.1, .inr (11, [.ref a0.2.1, .ref a0.2.2.1, .int v0.2.2.1, .int v0.2.2.2.1, .ref a0.2.2.2.1, .int v0.2.2.2.2.2.1, .int v0.2.2.2.2.2.2.1, .ref a0.2.2.2.2.1, .int v0.2.2.2.2.2.2.2.2.1, .int v0.2.2.2.2.2.2.2.2.2.1, .int v0.2.2.2.2.2.2.2.2.2.2.1, .int v0.2.2.2.2.2.2.2.2.2.2.2.1, .ref a0.2.2.2.2.2, .int v0.2.2.2.2.2.2.2.2.2.2.2.2.2]))], [(a0.2.1, .inl (cA, v0.1.1, .inl v0.1.2))], [(a0.2.2.1, .inl (cA, v0.2.1.1, .inl v0.2.1.2))], [(a0.2.2.2.1, .inl (cA, v0.2.2.2.2.1.1, .inl v0.2.2.2.2.1.2))], [(a0.2.2.2.2.1, .inl (cA, v0.2.2.2.2.2.2.2.1.1, .inl v0.2.2.2.2.2.2.2.1.2))], [(a0.2.2.2.2.2, .inl (cA, v0.2.2.2.2.2.2.2.2.2.2.2.2.1.1, .inl z22_1))]]) (cs1 := []) (bs1 := [[(a0.1, .inr (11, [.ref a0.2.1, .ref a0.2.2.1, .int v0.2.2.1, .int v0.2.2.2.1, .ref a0.2.2.2.1, .int v0.2.2.2.2.2.1, .int v0.2.2.2.2.2.2.1, .ref a0.2.2.2.2.1, .int v0.2.2.2.2.2.2.2.2.1, .int v0.2.2.2.2.2.2.2.2.2.1, .int v0.2.2.2.2.2.2.2.2.2.2.1, .int v0.2.2.2.2.2.2.2.2.2.2.2.1, .ref a0.2.2.2.2.2, .int v0.2.2.2.2.2.2.2.2.2.2.2.2.2]))], [(a0.2.1, .inl (cA, v0.1.1, .inl v0.1.2))], [(a0.2.2.1, .inl (cA, v0.2.1.1, .inl v0.2.1.2))], [(a0.2.2.2.1, .inl (cA, v0.2.2.2.2.1.1, .inl v0.2.2.2.2.1.2))], [(a0.2.2.2.2.1, .inl (cA, v0.2.2.2.2.2.2.2.1.1, .inl v0.2.2.2.2.2.2.2.1.2))], [(a0.2.2.2.2.2, .inl (cA, v0.2.2.2.2.2.2.2.2.2.2.2.2.1.1, .inl z22_1))]]) (rest := [.ref a0.2.1, .int (v0.1.2 o564.toNatClampNeg)]) (st1 := [.int o566, .ref a0.2.1, .int (v0.1.2 o564.toNatClampNeg)]) ⟨hx, hb, hml, hown, hts⟩ hz hw hA (mX11_eventAt l D cA cR z2_0 (3 : Int32) o566 hso566) gX11_laysChains_X11_eventAt rfl rfl rfl (by decide +kernel) rfl ⟨Nat.le_of_ble_eq_true rfl, Nat.le_of_ble_eq_true rfl⟩ hl.1 rfl (Nat.le_of_ble_eq_true rfl) dX11_laysChains_165 ⟨Nat.le_of_ble_eq_true rfl, Nat.le_of_ble_eq_true rfl⟩ [] [0, 1, 2, 3, 4, 5] [0, 1, 2, 3, 4, 5] rfl rfl rfl rfl rfl rfl (fun H locs hw => ?_)
                    obtain ⟨g567, hsp⟩ := grd_of hsp
                    refine k_iald hx hb hz hw 1 rfl g567 dX11_laysChains_168 ?_
                    obtain ⟨o568, hso568, hsp⟩ := bnd_of hsp
                    refine k_callS (nA := 2) (As := [.int (v0.1.2 o564.toNatClampNeg), .int (v0.1.2 o566.toNatClampNeg)]) (cs := []) (rs := [[(a0.1, .inr (11, [.ref a0.2.1, .ref a0.2.2.1, .int v0.2.2.1, .int v0.2.2.2.1, .ref a0.2.2.2.1, .int v0.2.2.2.2.2.1, .int v0.2.2.2.2.2.2.1, .ref a0.2.2.2.2.1, .int v0.2.2.2.2.2.2.2.2.1, .int v0.2.2.2.2.2.2.2.2.2.1, .int v0.2.2.2.2.2.2.2.2.2.2.1, .int v0.2.2.2.2.2.2.2.2.2.2.2.1, .ref a0.2.2.2.2.2, .int v0.2.2.2.2.2.2.2.2.2.2.2.2.2]))], [(a0.2.1, .inl (cA, v0.1.1, .inl v0.1.2))], [(a0.2.2.1, .inl (cA, v0.2.1.1, .inl v0.2.1.2))], [(a0.2.2.2.1, .inl (cA, v0.2.2.2.2.1.1, .inl v0.2.2.2.2.1.2))], [(a0.2.2.2.2.1, .inl (cA, v0.2.2.2.2.2.2.2.1.1, .inl v0.2.2.2.2.2.2.2.1.2))], [(a0.2.2.2.2.2, .inl (cA, v0.2.2.2.2.2.2.2.2.2.2.2.2.1.1, .inl z22_1))]]) (cs1 := []) (bs1 := [[(a0.1, .inr (11, [.ref a0.2.1, .ref a0.2.2.1, .int v0.2.2.1, .int v0.2.2.2.1, .ref a0.2.2.2.1, .int v0.2.2.2.2.2.1, .int v0.2.2.2.2.2.2.1, .ref a0.2.2.2.2.1, .int v0.2.2.2.2.2.2.2.2.1, .int v0.2.2.2.2.2.2.2.2.2.1, .int v0.2.2.2.2.2.2.2.2.2.2.1, .int v0.2.2.2.2.2.2.2.2.2.2.2.1, .ref a0.2.2.2.2.2, .int v0.2.2.2.2.2.2.2.2.2.2.2.2.2]))], [(a0.2.1, .inl (cA, v0.1.1, .inl v0.1.2))], [(a0.2.2.1, .inl (cA, v0.2.1.1, .inl v0.2.1.2))], [(a0.2.2.2.1, .inl (cA, v0.2.2.2.2.1.1, .inl v0.2.2.2.2.1.2))], [(a0.2.2.2.2.1, .inl (cA, v0.2.2.2.2.2.2.2.1.1, .inl v0.2.2.2.2.2.2.2.1.2))], [(a0.2.2.2.2.2, .inl (cA, v0.2.2.2.2.2.2.2.2.2.2.2.2.1.1, .inl z22_1))]]) (rest := []) (st1 := [.int o568]) ⟨hx, hb, hml, hown, hts⟩ hz hw hA (mX11_apart l D cA cR (v0.1.2 o564.toNatClampNeg) (v0.1.2 o566.toNatClampNeg) o568 hso568) gX11_laysChains_X11_apart rfl rfl rfl (by decide +kernel) rfl ⟨Nat.le_of_ble_eq_true rfl, Nat.le_of_ble_eq_true rfl⟩ hl.1 rfl (Nat.le_of_ble_eq_true rfl) dX11_laysChains_169 ⟨Nat.le_of_ble_eq_true rfl, Nat.le_of_ble_eq_true rfl⟩ [] [0, 1, 2, 3, 4, 5] [0, 1, 2, 3, 4, 5] rfl rfl rfl rfl rfl rfl (fun H locs hw => ?_)
                    refine lv_aload_n hx hb dX11_laysChains_172 rfl (lv_at hl 1 rfl) ?_
                    refine k_get (ci := 11) (v := .ref a0.2.1) (C := RX11) (T := TX11) (N := 14) hx hb hts hown hz hw (by decide +kernel) 0 rfl rfl 0 (by decide) (hts (.fieldLink RX11 7 "OccupancyMonitorModel" "all" "[I") (by decide +kernel)) (fun _ h9 => h9) rfl dX11_laysChains_173 ?_
                    refine lv_iconst (v := 4) hx hb dX11_laysChains_176 (by decide) ?_
                    obtain ⟨g569, hsp⟩ := grd_of hsp
                    refine k_iald hx hb hz hw 1 rfl g569 dX11_laysChains_177 ?_
                    refine lv_icmp_gt (tgt := 185) hx hb dX11_laysChains_178 (by decide) (fun c570 => ?_) (fun c570 => ?_)
                    · have hsp := ift c570 hsp
                      refine lv_iconst (v := 0) hx hb dX11_laysChains_185 (by decide) ?_
                      have hsp := Option.some.inj hsp
                      subst hsp
                      exact Jj534 _ _ _ hw (lv_sub hl [1, 2, 3, 4, 0] rfl)
                    · have hsp := iff_ c570 hsp
                      refine lv_iconst (v := 1) hx hb dX11_laysChains_181 (by decide) ?_
                      refine lv_goto (tgt := 186) hx hb dX11_laysChains_182 (by decide) ?_
                      have hsp := Option.some.inj hsp
                      subst hsp
                      exact Jj534 _ _ _ hw (lv_sub hl [1, 2, 3, 4, 0] rfl)
              have hsp := hsj493
              refine lv_if_ne (tgt := 67) hx hb dX11_laysChains_37 (by decide) (fun c571 => ?_) (fun c571 => ?_)
              · have hsp := iff_ c571 hsp
                refine lv_iconst (v := 0) hx hb dX11_laysChains_67 (by decide) ?_
                have hsp := Option.some.inj hsp
                subst hsp
                exact Jj493 _ _ _ hw (lv_sub hl [0, 1, 2] rfl)
              · have hsp := ift c571 hsp
                refine lv_aload_n hx hb dX11_laysChains_40 rfl (lv_at hl 0 rfl) ?_
                refine k_get (ci := 11) (v := .ref a0.2.1) (C := RX11) (T := TX11) (N := 14) hx hb hts hown hz hw (by decide +kernel) 0 rfl rfl 0 (by decide) (hts (.fieldLink RX11 7 "OccupancyMonitorModel" "all" "[I") (by decide +kernel)) (fun _ h9 => h9) rfl dX11_laysChains_41 ?_
                refine lv_iload_n hx hb dX11_laysChains_44 rfl (lv_at hl 2 rfl) ?_
                refine lv_iconst (v := 0) hx hb dX11_laysChains_45 (by decide) ?_
                obtain ⟨o572, hso572, hsp⟩ := bnd_of hsp
                refine k_callS (nA := 2) (As := [.int z22_0, .int (0 : Int32)]) (cs := []) (rs := [[(a0.1, .inr (11, [.ref a0.2.1, .ref a0.2.2.1, .int v0.2.2.1, .int v0.2.2.2.1, .ref a0.2.2.2.1, .int v0.2.2.2.2.2.1, .int v0.2.2.2.2.2.2.1, .ref a0.2.2.2.2.1, .int v0.2.2.2.2.2.2.2.2.1, .int v0.2.2.2.2.2.2.2.2.2.1, .int v0.2.2.2.2.2.2.2.2.2.2.1, .int v0.2.2.2.2.2.2.2.2.2.2.2.1, .ref a0.2.2.2.2.2, .int v0.2.2.2.2.2.2.2.2.2.2.2.2.2]))], [(a0.2.1, .inl (cA, v0.1.1, .inl v0.1.2))], [(a0.2.2.1, .inl (cA, v0.2.1.1, .inl v0.2.1.2))], [(a0.2.2.2.1, .inl (cA, v0.2.2.2.2.1.1, .inl v0.2.2.2.2.1.2))], [(a0.2.2.2.2.1, .inl (cA, v0.2.2.2.2.2.2.2.1.1, .inl v0.2.2.2.2.2.2.2.1.2))], [(a0.2.2.2.2.2, .inl (cA, v0.2.2.2.2.2.2.2.2.2.2.2.2.1.1, .inl z22_1))]]) (cs1 := []) (bs1 := [[(a0.1, .inr (11, [.ref a0.2.1, .ref a0.2.2.1, .int v0.2.2.1, .int v0.2.2.2.1, .ref a0.2.2.2.1, .int v0.2.2.2.2.2.1, .int v0.2.2.2.2.2.2.1, .ref a0.2.2.2.2.1, .int v0.2.2.2.2.2.2.2.2.1, .int v0.2.2.2.2.2.2.2.2.2.1, .int v0.2.2.2.2.2.2.2.2.2.2.1, .int v0.2.2.2.2.2.2.2.2.2.2.2.1, .ref a0.2.2.2.2.2, .int v0.2.2.2.2.2.2.2.2.2.2.2.2.2]))], [(a0.2.1, .inl (cA, v0.1.1, .inl v0.1.2))], [(a0.2.2.1, .inl (cA, v0.2.1.1, .inl v0.2.1.2))], [(a0.2.2.2.1, .inl (cA, v0.2.2.2.2.1.1, .inl v0.2.2.2.2.1.2))], [(a0.2.2.2.2.1, .inl (cA, v0.2.2.2.2.2.2.2.1.1, .inl v0.2.2.2.2.2.2.2.1.2))], [(a0.2.2.2.2.2, .inl (cA, v0.2.2.2.2.2.2.2.2.2.2.2.2.1.1, .inl z22_1))]]) (rest := [.ref a0.2.1]) (st1 := [.int o572, .ref a0.2.1]) ⟨hx, hb, hml, hown, hts⟩ hz hw hA (mX11_eventAt l D cA cR z22_0 (0 : Int32) o572 hso572) gX11_laysChains_X11_eventAt rfl rfl rfl (by decide +kernel) rfl ⟨Nat.le_of_ble_eq_true rfl, Nat.le_of_ble_eq_true rfl⟩ hl.1 rfl (Nat.le_of_ble_eq_true rfl) dX11_laysChains_46 ⟨Nat.le_of_ble_eq_true rfl, Nat.le_of_ble_eq_true rfl⟩ [] [0, 1, 2, 3, 4, 5] [0, 1, 2, 3, 4, 5] rfl rfl rfl rfl rfl rfl (fun H locs hw => ?_)
                obtain ⟨g573, hsp⟩ := grd_of hsp
                refine k_iald hx hb hz hw 1 rfl g573 dX11_laysChains_49 ?_
                refine lv_aload_n hx hb dX11_laysChains_50 rfl (lv_at hl 0 rfl) ?_
                refine k_get (ci := 11) (v := .ref a0.2.1) (C := RX11) (T := TX11) (N := 14) hx hb hts hown hz hw (by decide +kernel) 0 rfl rfl 0 (by decide) (hts (.fieldLink RX11 7 "OccupancyMonitorModel" "all" "[I") (by decide +kernel)) (fun _ h9 => h9) rfl dX11_laysChains_51 ?_
                refine lv_iload_n hx hb dX11_laysChains_54 rfl (lv_at hl 1 rfl) ?_
                refine lv_iconst (v := 0) hx hb dX11_laysChains_55 (by decide) ?_
                obtain ⟨o574, hso574, hsp⟩ := bnd_of hsp
                refine k_callS (nA := 2) (As := [.int z2_0, .int (0 : Int32)]) (cs := []) (rs := [[(a0.1, .inr (11, [.ref a0.2.1, .ref a0.2.2.1, .int v0.2.2.1, .int v0.2.2.2.1, .ref a0.2.2.2.1, .int v0.2.2.2.2.2.1, .int v0.2.2.2.2.2.2.1, .ref a0.2.2.2.2.1, .int v0.2.2.2.2.2.2.2.2.1, .int v0.2.2.2.2.2.2.2.2.2.1, .int v0.2.2.2.2.2.2.2.2.2.2.1, .int v0.2.2.2.2.2.2.2.2.2.2.2.1, .ref a0.2.2.2.2.2, .int v0.2.2.2.2.2.2.2.2.2.2.2.2.2]))], [(a0.2.1, .inl (cA, v0.1.1, .inl v0.1.2))], [(a0.2.2.1, .inl (cA, v0.2.1.1, .inl v0.2.1.2))], [(a0.2.2.2.1, .inl (cA, v0.2.2.2.2.1.1, .inl v0.2.2.2.2.1.2))], [(a0.2.2.2.2.1, .inl (cA, v0.2.2.2.2.2.2.2.1.1, .inl v0.2.2.2.2.2.2.2.1.2))], [(a0.2.2.2.2.2, .inl (cA, v0.2.2.2.2.2.2.2.2.2.2.2.2.1.1, .inl z22_1))]]) (cs1 := []) (bs1 := [[(a0.1, .inr (11, [.ref a0.2.1, .ref a0.2.2.1, .int v0.2.2.1, .int v0.2.2.2.1, .ref a0.2.2.2.1, .int v0.2.2.2.2.2.1, .int v0.2.2.2.2.2.2.1, .ref a0.2.2.2.2.1, .int v0.2.2.2.2.2.2.2.2.1, .int v0.2.2.2.2.2.2.2.2.2.1, .int v0.2.2.2.2.2.2.2.2.2.2.1, .int v0.2.2.2.2.2.2.2.2.2.2.2.1, .ref a0.2.2.2.2.2, .int v0.2.2.2.2.2.2.2.2.2.2.2.2.2]))], [(a0.2.1, .inl (cA, v0.1.1, .inl v0.1.2))], [(a0.2.2.1, .inl (cA, v0.2.1.1, .inl v0.2.1.2))], [(a0.2.2.2.1, .inl (cA, v0.2.2.2.2.1.1, .inl v0.2.2.2.2.1.2))], [(a0.2.2.2.2.1, .inl (cA, v0.2.2.2.2.2.2.2.1.1, .inl v0.2.2.2.2.2.2.2.1.2))], [(a0.2.2.2.2.2, .inl (cA, v0.2.2.2.2.2.2.2.2.2.2.2.2.1.1, .inl z22_1))]]) (rest := [.ref a0.2.1, .int (v0.1.2 o572.toNatClampNeg)]) (st1 := [.int o574, .ref a0.2.1, .int (v0.1.2 o572.toNatClampNeg)]) ⟨hx, hb, hml, hown, hts⟩ hz hw hA (mX11_eventAt l D cA cR z2_0 (0 : Int32) o574 hso574) gX11_laysChains_X11_eventAt rfl rfl rfl (by decide +kernel) rfl ⟨Nat.le_of_ble_eq_true rfl, Nat.le_of_ble_eq_true rfl⟩ hl.1 rfl (Nat.le_of_ble_eq_true rfl) dX11_laysChains_56 ⟨Nat.le_of_ble_eq_true rfl, Nat.le_of_ble_eq_true rfl⟩ [] [0, 1, 2, 3, 4, 5] [0, 1, 2, 3, 4, 5] rfl rfl rfl rfl rfl rfl (fun H locs hw => ?_)
                obtain ⟨g575, hsp⟩ := grd_of hsp
                refine k_iald hx hb hz hw 1 rfl g575 dX11_laysChains_59 ?_
                refine lv_icmp_eq (tgt := 67) hx hb dX11_laysChains_60 (by decide) (fun c576 => ?_) (fun c576 => ?_)
                · have hsp := ift c576 hsp
                  refine lv_iconst (v := 0) hx hb dX11_laysChains_67 (by decide) ?_
                  have hsp := Option.some.inj hsp
                  subst hsp
                  exact Jj493 _ _ _ hw (lv_sub hl [0, 1, 2] rfl)
                · have hsp := iff_ c576 hsp
                  refine lv_iconst (v := 1) hx hb dX11_laysChains_63 (by decide) ?_
                  refine lv_goto (tgt := 68) hx hb dX11_laysChains_64 (by decide) ?_
                  have hsp := Option.some.inj hsp
                  subst hsp
                  exact Jj493 _ _ _ hw (lv_sub hl [0, 1, 2] rfl)
        obtain ⟨o483, hso483, hsp⟩ := bnd_of hsp
        refine L22 N (0 : Int32) f296 _ hso483 _ _ _ hw (lv_sub hl [1, 2, 0] rfl) (fun y253 hy253 H locs ls hw hl => ?_)
        cases hy253
        refine lv_iinc (v := (z2_0 + 1)) (lv' := [(1, .int (z2_0 + 1)), (0, .ref a0.1), (2, .int o483.1)]) hx hb dX11_laysChains_253 hl (k := 1) rfl rfl (by decide) rfl (fun ls hl => ?_)
        refine lv_goto (tgt := 2) hx hb dX11_laysChains_256 (by decide) ?_
        exact ih2 (z2_0 + 1) o483.2 _ hsp _ _ _ hw (lv_sub hl [1, 0] rfl) kx2_259
  obtain ⟨o292, hso292, hsp⟩ := bnd_of hsp
  refine L2 N (0 : Int32) v0.2.2.2.2.2.2.2.2.2.2.2.2.1.2 _ hso292 _ _ _ hw (lv_sub hl [1, 0] rfl) (fun y259 hy259 H locs ls hw hl => ?_)
  cases hy259
  have hsp := Option.some.inj hsp
  subst hsp
  have hw : ww A s.heap D [w11 cA a0 (v0.1, v0.2.1, v0.2.2.1, v0.2.2.2.1, v0.2.2.2.2.1, v0.2.2.2.2.2.1, v0.2.2.2.2.2.2.1, v0.2.2.2.2.2.2.2.1, v0.2.2.2.2.2.2.2.2.1, v0.2.2.2.2.2.2.2.2.2.1, v0.2.2.2.2.2.2.2.2.2.2.1, v0.2.2.2.2.2.2.2.2.2.2.2.1, (v0.2.2.2.2.2.2.2.2.2.2.2.2.1.1, o292.2), v0.2.2.2.2.2.2.2.2.2.2.2.2.2)] H locs := hw
  subst hQ
  exact k_vret hx hb hr hlk hw dX11_laysChains_259
