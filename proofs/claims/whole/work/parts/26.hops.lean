noncomputable def sX4_fits (v0 : V2) (p2 : Int32) (p3 : Int32) (p4 : Int32) (p5 : Int32) : Option (Int32) := ((sX2_read v0 p3 (1 : Int32)).bind (fun o1 => ((sX2_read v0 p2 (2 : Int32)).bind (fun o2 => ((sX2_read v0 p3 (3 : Int32)).bind (fun o3 => ((sX2_read v0 p2 (3 : Int32)).bind (fun o4 => ((sX2_read v0 p2 (4 : Int32)).bind (fun o5 => (if o5 = 0 then ((sX2_read v0 p2 (0 : Int32)).bind (fun o7 => ((sX2_read v0 p3 (0 : Int32)).bind (fun o8 => (if o7 = o8 then (some (0 : Int32)) else (if (o1 - o2) < (1 : Int32) then (some (0 : Int32)) else (if p4 < (o1 - o2) then (some (0 : Int32)) else (lt_ (if 0 ≤ (o3 - o4) then (o3 - o4) else 0 - (o3 - o4)) (fun x12 => (if p5 < x12 then (some (0 : Int32)) else (some (1 : Int32)))))))))))) else (some (0 : Int32)))))))))))))
abbrev rX4_fits : Room := { frames := 2, cells := 0, slots := 0, locals := 44 }
set_option maxHeartbeats 4000000 in
set_option maxRecDepth 100000 in
theorem mX4_fits (l : Launch) (D : va_G) (cA cR : ClassId) (a0 : A2) (v0 : V2) (p2 : Int32) (p3 : Int32) (p4 : Int32) (p5 : Int32) (o : Int32) (hsp : sX4_fits v0 p2 p3 p4 p5 = some o) : MI l yX4_fits wsX4_fits rX4_fits D cA cR [.ref a0.1, .int p2, .int p3, .int p4, .int p5] [w2 cA a0 v0] (some (.int o)) [w2 cA a0 v0] 0 0 := by
  have hsp : ((sX2_read v0 p3 (1 : Int32)).bind (fun o1 => ((sX2_read v0 p2 (2 : Int32)).bind (fun o2 => ((sX2_read v0 p3 (3 : Int32)).bind (fun o3 => ((sX2_read v0 p2 (3 : Int32)).bind (fun o4 => ((sX2_read v0 p2 (4 : Int32)).bind (fun o5 => (if o5 = 0 then ((sX2_read v0 p2 (0 : Int32)).bind (fun o7 => ((sX2_read v0 p3 (0 : Int32)).bind (fun o8 => (if o7 = o8 then (some (0 : Int32)) else (if (o1 - o2) < (1 : Int32) then (some (0 : Int32)) else (if p4 < (o1 - o2) then (some (0 : Int32)) else (lt_ (if 0 ≤ (o3 - o4) then (o3 - o4) else 0 - (o3 - o4)) (fun x12 => (if p5 < x12 then (some (0 : Int32)) else (some (1 : Int32)))))))))))) else (some (0 : Int32))))))))))))) = some o := hsp
  refine MI.ofW (cc := cX4_fits) (maxL := 7) (ret := (some .boolean)) (by decide) rfl (Nat.le_of_ble_eq_true rfl) ?_
  intro p e s m args below meth c A ls Q H locs hx hb hr hlk hml hown hnm hts hz hA hQ hw hl
  have hl : lv_has ls 7 [(0, .ref a0.1), (1, .int p2), (2, .int p3), (3, .int p4), (4, .int p5)] := hl
  have hw : ww A s.heap D [w2 cA a0 v0] H locs := hw
  refine lv_aload_n hx hb dX4_fits_0 rfl (lv_at hl 0 rfl) ?_
  refine lv_iload_n hx hb dX4_fits_1 rfl (lv_at hl 2 rfl) ?_
  refine lv_iconst (v := 1) hx hb dX4_fits_2 (by decide) ?_
  obtain ⟨o1, hso1, hsp⟩ := bnd_of hsp
  refine k_callV (ci := 2) (C := RX2) (T := TX2) (N := 4) (nA := 2) (As := [.int p3, .int (1 : Int32)]) (cs := [w2 cA a0 v0]) (rs := []) (cs1 := [w2 cA a0 v0]) (bs1 := [w2 cA a0 v0]) (rest := []) (st1 := [.int o1]) ⟨hx, hb, hml, hown, hts⟩ hz hw hA (mX2_read l D cA cR a0 v0 p3 (1 : Int32) o1 hso1) gX4_fits_X2_read rfl rfl rfl (by decide +kernel) rfl ⟨Nat.le_of_ble_eq_true rfl, Nat.le_of_ble_eq_true rfl⟩ rfl rfl hl.1 rfl (Nat.le_of_ble_eq_true rfl) dX4_fits_3 ⟨Nat.le_of_ble_eq_true rfl, Nat.le_of_ble_eq_true rfl⟩ [0] [] [0] rfl rfl rfl rfl rfl rfl (fun H locs hw => ?_)
  refine lv_aload_n hx hb dX4_fits_6 rfl (lv_at hl 0 rfl) ?_
  refine lv_iload_n hx hb dX4_fits_7 rfl (lv_at hl 1 rfl) ?_
  refine lv_iconst (v := 2) hx hb dX4_fits_8 (by decide) ?_
  obtain ⟨o2, hso2, hsp⟩ := bnd_of hsp
  refine k_callV (ci := 2) (C := RX2) (T := TX2) (N := 4) (nA := 2) (As := [.int p2, .int (2 : Int32)]) (cs := [w2 cA a0 v0]) (rs := []) (cs1 := [w2 cA a0 v0]) (bs1 := [w2 cA a0 v0]) (rest := [.int o1]) (st1 := [.int o2, .int o1]) ⟨hx, hb, hml, hown, hts⟩ hz hw hA (mX2_read l D cA cR a0 v0 p2 (2 : Int32) o2 hso2) gX4_fits_X2_read rfl rfl rfl (by decide +kernel) rfl ⟨Nat.le_of_ble_eq_true rfl, Nat.le_of_ble_eq_true rfl⟩ rfl rfl hl.1 rfl (Nat.le_of_ble_eq_true rfl) dX4_fits_9 ⟨Nat.le_of_ble_eq_true rfl, Nat.le_of_ble_eq_true rfl⟩ [0] [] [0] rfl rfl rfl rfl rfl rfl (fun H locs hw => ?_)
  refine lv_isub hx hb dX4_fits_12 ?_
  refine lv_istore (lv' := [(5, .int (o1 - o2)), (0, .ref a0.1), (1, .int p2), (2, .int p3), (3, .int p4), (4, .int p5)]) hx hb dX4_fits_13 hl (by decide) rfl (fun ls hl => ?_)
  refine lv_aload_n hx hb dX4_fits_15 rfl (lv_at hl 1 rfl) ?_
  refine lv_iload_n hx hb dX4_fits_16 rfl (lv_at hl 3 rfl) ?_
  refine lv_iconst (v := 3) hx hb dX4_fits_17 (by decide) ?_
  obtain ⟨o3, hso3, hsp⟩ := bnd_of hsp
  refine k_callV (ci := 2) (C := RX2) (T := TX2) (N := 4) (nA := 2) (As := [.int p3, .int (3 : Int32)]) (cs := [w2 cA a0 v0]) (rs := []) (cs1 := [w2 cA a0 v0]) (bs1 := [w2 cA a0 v0]) (rest := []) (st1 := [.int o3]) ⟨hx, hb, hml, hown, hts⟩ hz hw hA (mX2_read l D cA cR a0 v0 p3 (3 : Int32) o3 hso3) gX4_fits_X2_read rfl rfl rfl (by decide +kernel) rfl ⟨Nat.le_of_ble_eq_true rfl, Nat.le_of_ble_eq_true rfl⟩ rfl rfl hl.1 rfl (Nat.le_of_ble_eq_true rfl) dX4_fits_18 ⟨Nat.le_of_ble_eq_true rfl, Nat.le_of_ble_eq_true rfl⟩ [0] [] [0] rfl rfl rfl rfl rfl rfl (fun H locs hw => ?_)
  refine lv_aload_n hx hb dX4_fits_21 rfl (lv_at hl 1 rfl) ?_
  refine lv_iload_n hx hb dX4_fits_22 rfl (lv_at hl 2 rfl) ?_
  refine lv_iconst (v := 3) hx hb dX4_fits_23 (by decide) ?_
  obtain ⟨o4, hso4, hsp⟩ := bnd_of hsp
  refine k_callV (ci := 2) (C := RX2) (T := TX2) (N := 4) (nA := 2) (As := [.int p2, .int (3 : Int32)]) (cs := [w2 cA a0 v0]) (rs := []) (cs1 := [w2 cA a0 v0]) (bs1 := [w2 cA a0 v0]) (rest := [.int o3]) (st1 := [.int o4, .int o3]) ⟨hx, hb, hml, hown, hts⟩ hz hw hA (mX2_read l D cA cR a0 v0 p2 (3 : Int32) o4 hso4) gX4_fits_X2_read rfl rfl rfl (by decide +kernel) rfl ⟨Nat.le_of_ble_eq_true rfl, Nat.le_of_ble_eq_true rfl⟩ rfl rfl hl.1 rfl (Nat.le_of_ble_eq_true rfl) dX4_fits_24 ⟨Nat.le_of_ble_eq_true rfl, Nat.le_of_ble_eq_true rfl⟩ [0] [] [0] rfl rfl rfl rfl rfl rfl (fun H locs hw => ?_)
  refine lv_isub hx hb dX4_fits_27 ?_
  refine lv_istore (lv' := [(6, .int (o3 - o4)), (5, .int (o1 - o2)), (0, .ref a0.1), (1, .int p2), (2, .int p3), (3, .int p4), (4, .int p5)]) hx hb dX4_fits_28 hl (by decide) rfl (fun ls hl => ?_)
  refine lv_aload_n hx hb dX4_fits_30 rfl (lv_at hl 2 rfl) ?_
  refine lv_iload_n hx hb dX4_fits_31 rfl (lv_at hl 3 rfl) ?_
  refine lv_iconst (v := 4) hx hb dX4_fits_32 (by decide) ?_
  obtain ⟨o5, hso5, hsp⟩ := bnd_of hsp
  refine k_callV (ci := 2) (C := RX2) (T := TX2) (N := 4) (nA := 2) (As := [.int p2, .int (4 : Int32)]) (cs := [w2 cA a0 v0]) (rs := []) (cs1 := [w2 cA a0 v0]) (bs1 := [w2 cA a0 v0]) (rest := []) (st1 := [.int o5]) ⟨hx, hb, hml, hown, hts⟩ hz hw hA (mX2_read l D cA cR a0 v0 p2 (4 : Int32) o5 hso5) gX4_fits_X2_read rfl rfl rfl (by decide +kernel) rfl ⟨Nat.le_of_ble_eq_true rfl, Nat.le_of_ble_eq_true rfl⟩ rfl rfl hl.1 rfl (Nat.le_of_ble_eq_true rfl) dX4_fits_33 ⟨Nat.le_of_ble_eq_true rfl, Nat.le_of_ble_eq_true rfl⟩ [0] [] [0] rfl rfl rfl rfl rfl rfl (fun H locs hw => ?_)
  refine lv_if_ne (tgt := 80) hx hb dX4_fits_36 (by decide) (fun c6 => ?_) (fun c6 => ?_)
  · have hsp := iff_ c6 hsp
    refine lv_iconst (v := 0) hx hb dX4_fits_80 (by decide) ?_
    have hsp := Option.some.inj hsp
    subst hsp
    have hw : ww A s.heap D [w2 cA a0 v0] H locs := hw
    subst hQ
    exact k_zret (v := (0 : Int32)) hx hb hr hlk rfl hw dX4_fits_81
  · have hsp := ift c6 hsp
    refine lv_aload_n hx hb dX4_fits_39 rfl (lv_at hl 2 rfl) ?_
    refine lv_iload_n hx hb dX4_fits_40 rfl (lv_at hl 3 rfl) ?_
    refine lv_iconst (v := 0) hx hb dX4_fits_41 (by decide) ?_
    obtain ⟨o7, hso7, hsp⟩ := bnd_of hsp
    refine k_callV (ci := 2) (C := RX2) (T := TX2) (N := 4) (nA := 2) (As := [.int p2, .int (0 : Int32)]) (cs := [w2 cA a0 v0]) (rs := []) (cs1 := [w2 cA a0 v0]) (bs1 := [w2 cA a0 v0]) (rest := []) (st1 := [.int o7]) ⟨hx, hb, hml, hown, hts⟩ hz hw hA (mX2_read l D cA cR a0 v0 p2 (0 : Int32) o7 hso7) gX4_fits_X2_read rfl rfl rfl (by decide +kernel) rfl ⟨Nat.le_of_ble_eq_true rfl, Nat.le_of_ble_eq_true rfl⟩ rfl rfl hl.1 rfl (Nat.le_of_ble_eq_true rfl) dX4_fits_42 ⟨Nat.le_of_ble_eq_true rfl, Nat.le_of_ble_eq_true rfl⟩ [0] [] [0] rfl rfl rfl rfl rfl rfl (fun H locs hw => ?_)
    refine lv_aload_n hx hb dX4_fits_45 rfl (lv_at hl 2 rfl) ?_
    refine lv_iload_n hx hb dX4_fits_46 rfl (lv_at hl 4 rfl) ?_
    refine lv_iconst (v := 0) hx hb dX4_fits_47 (by decide) ?_
    obtain ⟨o8, hso8, hsp⟩ := bnd_of hsp
    refine k_callV (ci := 2) (C := RX2) (T := TX2) (N := 4) (nA := 2) (As := [.int p3, .int (0 : Int32)]) (cs := [w2 cA a0 v0]) (rs := []) (cs1 := [w2 cA a0 v0]) (bs1 := [w2 cA a0 v0]) (rest := [.int o7]) (st1 := [.int o8, .int o7]) ⟨hx, hb, hml, hown, hts⟩ hz hw hA (mX2_read l D cA cR a0 v0 p3 (0 : Int32) o8 hso8) gX4_fits_X2_read rfl rfl rfl (by decide +kernel) rfl ⟨Nat.le_of_ble_eq_true rfl, Nat.le_of_ble_eq_true rfl⟩ rfl rfl hl.1 rfl (Nat.le_of_ble_eq_true rfl) dX4_fits_48 ⟨Nat.le_of_ble_eq_true rfl, Nat.le_of_ble_eq_true rfl⟩ [0] [] [0] rfl rfl rfl rfl rfl rfl (fun H locs hw => ?_)
    refine lv_icmp_eq (tgt := 80) hx hb dX4_fits_51 (by decide) (fun c9 => ?_) (fun c9 => ?_)
    · have hsp := ift c9 hsp
      refine lv_iconst (v := 0) hx hb dX4_fits_80 (by decide) ?_
      have hsp := Option.some.inj hsp
      subst hsp
      have hw : ww A s.heap D [w2 cA a0 v0] H locs := hw
      subst hQ
      exact k_zret (v := (0 : Int32)) hx hb hr hlk rfl hw dX4_fits_81
    · have hsp := iff_ c9 hsp
      refine lv_iload hx hb dX4_fits_54 (lv_at hl 1 rfl) ?_
      refine lv_iconst (v := 1) hx hb dX4_fits_56 (by decide) ?_
      refine lv_icmp_lt (tgt := 80) hx hb dX4_fits_57 (by decide) (fun c10 => ?_) (fun c10 => ?_)
      · have hsp := ift c10 hsp
        refine lv_iconst (v := 0) hx hb dX4_fits_80 (by decide) ?_
        have hsp := Option.some.inj hsp
        subst hsp
        have hw : ww A s.heap D [w2 cA a0 v0] H locs := hw
        subst hQ
        exact k_zret (v := (0 : Int32)) hx hb hr hlk rfl hw dX4_fits_81
      · have hsp := iff_ c10 hsp
        refine lv_iload hx hb dX4_fits_60 (lv_at hl 1 rfl) ?_
        refine lv_iload_n hx hb dX4_fits_62 rfl (lv_at hl 5 rfl) ?_
        refine lv_icmp_gt (tgt := 80) hx hb dX4_fits_63 (by decide) (fun c11 => ?_) (fun c11 => ?_)
        · have hsp := ift c11 hsp
          refine lv_iconst (v := 0) hx hb dX4_fits_80 (by decide) ?_
          have hsp := Option.some.inj hsp
          subst hsp
          have hw : ww A s.heap D [w2 cA a0 v0] H locs := hw
          subst hQ
          exact k_zret (v := (0 : Int32)) hx hb hr hlk rfl hw dX4_fits_81
        · have hsp := iff_ c11 hsp
          refine lv_iload hx hb dX4_fits_66 (lv_at hl 0 rfl) ?_
          refine va_mabs hx hb (by rw [hml]; exact hl.1.symm) hown (hts (.methodLink RX4 55 Lib.Math.abs.name) (by decide +kernel)) (hts (.static Lib.Math.abs.name) (by decide +kernel)) (hts (.initialized "java/lang/Math") (by decide +kernel)) (hts (.code Lib.Math.abs.name Lib.Math.abs.code 1 (some .int)) (by decide +kernel)) (Nat.le_of_ble_eq_true rfl) (Nat.le_of_ble_eq_true rfl) (Nat.le_of_ble_eq_true rfl) (Nat.le_of_ble_eq_true rfl) dX4_fits_68 ?_
          refine lv_topi (fun x12 ex12 => ?_)
          have hsp := lt_of hsp ex12
          refine lv_iload hx hb dX4_fits_71 (lv_at hl 6 rfl) ?_
          refine lv_icmp_gt (tgt := 80) hx hb dX4_fits_73 (by decide) (fun c13 => ?_) (fun c13 => ?_)
          · have hsp := ift c13 hsp
            refine lv_iconst (v := 0) hx hb dX4_fits_80 (by decide) ?_
            have hsp := Option.some.inj hsp
            subst hsp
            have hw : ww A s.heap D [w2 cA a0 v0] H locs := hw
            subst hQ
            exact k_zret (v := (0 : Int32)) hx hb hr hlk rfl hw dX4_fits_81
          · have hsp := iff_ c13 hsp
            refine lv_iconst (v := 1) hx hb dX4_fits_76 (by decide) ?_
            refine lv_goto (tgt := 81) hx hb dX4_fits_77 (by decide) ?_
            have hsp := Option.some.inj hsp
            subst hsp
            have hw : ww A s.heap D [w2 cA a0 v0] H locs := hw
            subst hQ
            exact k_zret (v := (1 : Int32)) hx hb hr hlk rfl hw dX4_fits_81
noncomputable def qX4_findPredecessor_9 (v0 : V4) (v1 : V2) (p2 : Int32) (p3 : Int32) (p4 : Int32) : Nat → Int32 → Int32 → Int32 → Option (Int32 × Int32 × Int32)
  | 0, _, _, _ => none
  | n9 + 1, z9_0, z9_1, z9_2 => (if p2 ≤ z9_2 then (some (z9_0, z9_1, z9_2)) else ((sX2_read v1 z9_2 (2 : Int32)).bind (fun o33 => (grd (vp_in z9_2 v0.2.1.1) (((if (v0.2.1.2 z9_2.toNatClampNeg) = (-1 : Int32) then (some (1 : Int32)) else (some (0 : Int32))) : Option (Int32)).bind (fun j36 => (((if j36 = 0 then (some (z9_0, z9_1)) else (if o33 < z9_1 then (some (z9_0, z9_1)) else ((sX4_fits v1 z9_2 p2 p3 p4).bind (fun o44 => (if o44 = 0 then (some (z9_0, z9_1)) else (some (z9_2, o33))))))) : Option (Int32 × Int32)).bind (fun j41 => (qX4_findPredecessor_9 v0 v1 p2 p3 p4 n9 j41.1 j41.2 (z9_2 + 1))))))))))
noncomputable def sX4_findPredecessor (N : Nat) (v0 : V4) (v1 : V2) (p2 : Int32) (p3 : Int32) (p4 : Int32) : Option (Int32) := ((qX4_findPredecessor_9 v0 v1 p2 p3 p4 N (-1 : Int32) (-1 : Int32) (0 : Int32)).bind (fun o31 => (some o31.1)))
abbrev rX4_findPredecessor : Room := { frames := 3, cells := 0, slots := 0, locals := 70 }
set_option maxHeartbeats 4000000 in
set_option maxRecDepth 100000 in
theorem mX4_findPredecessor (l : Launch) (D : va_G) (cA cR : ClassId) (N : Nat) (a0 : A4) (v0 : V4) (a1 : A2) (v1 : V2) (p2 : Int32) (p3 : Int32) (p4 : Int32) (o : Int32) (hsp : sX4_findPredecessor N v0 v1 p2 p3 p4 = some o) : MI l yX4_findPredecessor wsX4_findPredecessor rX4_findPredecessor D cA cR [.ref a0.1, .ref a1.1, .int p2, .int p3, .int p4] [w4 cA a0 v0, w2 cA a1 v1] (some (.int o)) [w4 cA a0 v0, w2 cA a1 v1] 0 0 := by
  have hsp : ((qX4_findPredecessor_9 v0 v1 p2 p3 p4 N (-1 : Int32) (-1 : Int32) (0 : Int32)).bind (fun o31 => (some o31.1))) = some o := hsp
  refine MI.ofW (cc := cX4_findPredecessor) (maxL := 10) (ret := (some .int)) (by decide) rfl (Nat.le_of_ble_eq_true rfl) ?_
  intro p e s m args below meth c A ls Q H locs hx hb hr hlk hml hown hnm hts hz hA hQ hw hl
  have hl : lv_has ls 10 [(0, .ref a0.1), (1, .ref a1.1), (2, .int p2), (3, .int p3), (4, .int p4)] := hl
  have hw : ww A s.heap D [[(a0.1, .inr (4, [.ref a0.2.1, .ref a0.2.2.1, .ref a0.2.2.2, .int v0.2.2.2]))], [(a0.2.1, .inl (cA, v0.1.1, .inl v0.1.2))], [(a0.2.2.1, .inl (cA, v0.2.1.1, .inl v0.2.1.2))], [(a0.2.2.2, .inl (cA, v0.2.2.1.1, .inl v0.2.2.1.2))], w2 cA a1 v1] H locs := hw
  refine lv_iconst (v := -1) hx hb dX4_findPredecessor_0 (by decide) ?_
  refine lv_istore (lv' := [(5, .int (-1 : Int32)), (0, .ref a0.1), (1, .ref a1.1), (2, .int p2), (3, .int p3), (4, .int p4)]) hx hb dX4_findPredecessor_1 hl (by decide) rfl (fun ls hl => ?_)
  refine lv_iconst (v := -1) hx hb dX4_findPredecessor_3 (by decide) ?_
  refine lv_istore (lv' := [(6, .int (-1 : Int32)), (5, .int (-1 : Int32)), (0, .ref a0.1), (1, .ref a1.1), (2, .int p2), (3, .int p3), (4, .int p4)]) hx hb dX4_findPredecessor_4 hl (by decide) rfl (fun ls hl => ?_)
  refine lv_iconst (v := 0) hx hb dX4_findPredecessor_6 (by decide) ?_
  refine lv_istore (lv' := [(7, .int (0 : Int32)), (6, .int (-1 : Int32)), (5, .int (-1 : Int32)), (0, .ref a0.1), (1, .ref a1.1), (2, .int p2), (3, .int p3), (4, .int p4)]) hx hb dX4_findPredecessor_7 hl (by decide) rfl (fun ls hl => ?_)
  have L9 : ∀ (n9 : Nat) (z9_0 : Int32) (z9_1 : Int32) (z9_2 : Int32) (o31 : Int32 × Int32 × Int32), qX4_findPredecessor_9 v0 v1 p2 p3 p4 n9 z9_0 z9_1 z9_2 = some o31 → ∀ (H : Heap) (locs : List Loc) (ls : Array Slot), ww A s.heap D [[(a0.1, .inr (4, [.ref a0.2.1, .ref a0.2.2.1, .ref a0.2.2.2, .int v0.2.2.2]))], [(a0.2.1, .inl (cA, v0.1.1, .inl v0.1.2))], [(a0.2.2.1, .inl (cA, v0.2.1.1, .inl v0.2.1.2))], [(a0.2.2.2, .inl (cA, v0.2.2.1.1, .inl v0.2.2.1.2))], w2 cA a1 v1] H locs → lv_has ls 10 [(0, .ref a0.1), (1, .ref a1.1), (2, .int p2), (3, .int p3), (4, .int p4), (5, .int z9_0), (6, .int z9_1), (7, .int z9_2)] → (∀ (y81 : Int32 × Int32 × Int32), o31 = y81 → ∀ (H : Heap) (locs : List Loc) (ls : Array Slot), ww A s.heap D [[(a0.1, .inr (4, [.ref a0.2.1, .ref a0.2.2.1, .ref a0.2.2.2, .int v0.2.2.2]))], [(a0.2.1, .inl (cA, v0.1.1, .inl v0.1.2))], [(a0.2.2.1, .inl (cA, v0.2.1.1, .inl v0.2.1.2))], [(a0.2.2.2, .inl (cA, v0.2.2.1.1, .inl v0.2.2.1.2))], w2 cA a1 v1] H locs → lv_has ls 10 [(0, .ref a0.1), (1, .ref a1.1), (2, .int p2), (3, .int p3), (4, .int p4), (5, .int y81.1), (6, .int y81.2.1), (7, .int y81.2.2)] → W p l e rX4_findPredecessor s m args below meth c H locs 0 0 Q (F0 m 81 ls [])) → W p l e rX4_findPredecessor s m args below meth c H locs 0 0 Q (F0 m 9 ls []) := by
    intro n9
    induction n9 with
    | zero => intro z9_0 z9_1 z9_2 o31 hsp; cases hsp
    | succ n9 ih9 =>
      intro z9_0 z9_1 z9_2 o31 hsp H locs ls hw hl kx9_81
      have hsp : (if p2 ≤ z9_2 then (some (z9_0, z9_1, z9_2)) else ((sX2_read v1 z9_2 (2 : Int32)).bind (fun o33 => (grd (vp_in z9_2 v0.2.1.1) (((if (v0.2.1.2 z9_2.toNatClampNeg) = (-1 : Int32) then (some (1 : Int32)) else (some (0 : Int32))) : Option (Int32)).bind (fun j36 => (((if j36 = 0 then (some (z9_0, z9_1)) else (if o33 < z9_1 then (some (z9_0, z9_1)) else ((sX4_fits v1 z9_2 p2 p3 p4).bind (fun o44 => (if o44 = 0 then (some (z9_0, z9_1)) else (some (z9_2, o33))))))) : Option (Int32 × Int32)).bind (fun j41 => (qX4_findPredecessor_9 v0 v1 p2 p3 p4 n9 j41.1 j41.2 (z9_2 + 1)))))))))) = some o31 := hsp
      refine lv_iload hx hb dX4_findPredecessor_9 (lv_at hl 7 rfl) ?_
      refine lv_iload_n hx hb dX4_findPredecessor_11 rfl (lv_at hl 2 rfl) ?_
      refine lv_icmp_ge (tgt := 81) hx hb dX4_findPredecessor_12 (by decide) (fun c32 => ?_) (fun c32 => ?_)
      · have hsp := ift c32 hsp
        have hsp := Option.some.inj hsp
        subst hsp
        exact kx9_81 _ rfl _ _ _ hw (lv_sub hl [0, 1, 2, 3, 4, 5, 6, 7] rfl)
      · have hsp := iff_ c32 hsp
        refine lv_aload_n hx hb dX4_findPredecessor_15 rfl (lv_at hl 1 rfl) ?_
        refine lv_iload hx hb dX4_findPredecessor_16 (lv_at hl 7 rfl) ?_
        refine lv_iconst (v := 2) hx hb dX4_findPredecessor_18 (by decide) ?_
        obtain ⟨o33, hso33, hsp⟩ := bnd_of hsp
        refine k_callV (ci := 2) (C := RX2) (T := TX2) (N := 4) (nA := 2) (As := [.int z9_2, .int (2 : Int32)]) (cs := [w2 cA a1 v1]) (rs := [[(a0.1, .inr (4, [.ref a0.2.1, .ref a0.2.2.1, .ref a0.2.2.2, .int v0.2.2.2]))], [(a0.2.1, .inl (cA, v0.1.1, .inl v0.1.2))], [(a0.2.2.1, .inl (cA, v0.2.1.1, .inl v0.2.1.2))], [(a0.2.2.2, .inl (cA, v0.2.2.1.1, .inl v0.2.2.1.2))]]) (cs1 := [w2 cA a1 v1]) (bs1 := [[(a0.1, .inr (4, [.ref a0.2.1, .ref a0.2.2.1, .ref a0.2.2.2, .int v0.2.2.2]))], [(a0.2.1, .inl (cA, v0.1.1, .inl v0.1.2))], [(a0.2.2.1, .inl (cA, v0.2.1.1, .inl v0.2.1.2))], [(a0.2.2.2, .inl (cA, v0.2.2.1.1, .inl v0.2.2.1.2))], w2 cA a1 v1]) (rest := []) (st1 := [.int o33]) ⟨hx, hb, hml, hown, hts⟩ hz hw hA (mX2_read l D cA cR a1 v1 z9_2 (2 : Int32) o33 hso33) gX4_findPredecessor_X2_read rfl rfl rfl (by decide +kernel) rfl ⟨Nat.le_of_ble_eq_true rfl, Nat.le_of_ble_eq_true rfl⟩ rfl rfl hl.1 rfl (Nat.le_of_ble_eq_true rfl) dX4_findPredecessor_19 ⟨Nat.le_of_ble_eq_true rfl, Nat.le_of_ble_eq_true rfl⟩ [4] [0, 1, 2, 3] [0, 1, 2, 3, 4] rfl rfl rfl rfl rfl rfl (fun H locs hw => ?_)
        refine lv_istore (lv' := [(8, .int o33), (0, .ref a0.1), (1, .ref a1.1), (2, .int p2), (3, .int p3), (4, .int p4), (5, .int z9_0), (6, .int z9_1), (7, .int z9_2)]) hx hb dX4_findPredecessor_22 hl (by decide) rfl (fun ls hl => ?_)
        refine lv_aload_n hx hb dX4_findPredecessor_24 rfl (lv_at hl 1 rfl) ?_
        refine k_get (ci := 4) (v := .ref a0.2.2.1) (C := RX4) (T := TX4) (N := 4) hx hb hts hown hz hw (by decide +kernel) 0 rfl rfl 1 (by decide) (hts (.fieldLink RX4 15 "OccupancyMonitor$HopChains" "successors" "[I") (by decide +kernel)) (fun _ h9 => h9) rfl dX4_findPredecessor_25 ?_
        refine lv_iload hx hb dX4_findPredecessor_28 (lv_at hl 8 rfl) ?_
        obtain ⟨g34, hsp⟩ := grd_of hsp
        refine k_iald hx hb hz hw 2 rfl g34 dX4_findPredecessor_30 ?_
        refine lv_iconst (v := -1) hx hb dX4_findPredecessor_31 (by decide) ?_
        obtain ⟨j36, hsj36, hkj36⟩ := bnd_of hsp
        have Jj36 : ∀ (H : Heap) (locs : List Loc) (ls : Array Slot), ww A s.heap D [[(a0.1, .inr (4, [.ref a0.2.1, .ref a0.2.2.1, .ref a0.2.2.2, .int v0.2.2.2]))], [(a0.2.1, .inl (cA, v0.1.1, .inl v0.1.2))], [(a0.2.2.1, .inl (cA, v0.2.1.1, .inl v0.2.1.2))], [(a0.2.2.2, .inl (cA, v0.2.2.1.1, .inl v0.2.2.1.2))], w2 cA a1 v1] H locs → lv_has ls 10 [(0, .ref a0.1), (1, .ref a1.1), (2, .int p2), (3, .int p3), (4, .int p4), (5, .int z9_0), (6, .int z9_1), (7, .int z9_2), (8, .int o33)] → W p l e rX4_findPredecessor s m args below meth c H locs 0 0 Q (F0 m 40 ls [.int j36]) := by
          intro H locs ls hw hl
          have hsp := hkj36
          refine lv_istore (lv' := [(9, .int j36), (0, .ref a0.1), (1, .ref a1.1), (2, .int p2), (3, .int p3), (4, .int p4), (5, .int z9_0), (6, .int z9_1), (7, .int z9_2), (8, .int o33)]) hx hb dX4_findPredecessor_40 hl (by decide) rfl (fun ls hl => ?_)
          refine lv_iload hx hb dX4_findPredecessor_42 (lv_at hl 0 rfl) ?_
          obtain ⟨j41, hsj41, hkj41⟩ := bnd_of hsp
          have Jj41 : ∀ (H : Heap) (locs : List Loc) (ls : Array Slot), ww A s.heap D [[(a0.1, .inr (4, [.ref a0.2.1, .ref a0.2.2.1, .ref a0.2.2.2, .int v0.2.2.2]))], [(a0.2.1, .inl (cA, v0.1.1, .inl v0.1.2))], [(a0.2.2.1, .inl (cA, v0.2.1.1, .inl v0.2.1.2))], [(a0.2.2.2, .inl (cA, v0.2.2.1.1, .inl v0.2.2.1.2))], w2 cA a1 v1] H locs → lv_has ls 10 [(0, .ref a0.1), (1, .ref a1.1), (2, .int p2), (3, .int p3), (4, .int p4), (5, .int j41.1), (6, .int j41.2), (7, .int z9_2), (8, .int o33), (9, .int j36)] → W p l e rX4_findPredecessor s m args below meth c H locs 0 0 Q (F0 m 75 ls []) := by
            intro H locs ls hw hl
            have hsp := hkj41
            refine lv_iinc (v := (z9_2 + 1)) (lv' := [(7, .int (z9_2 + 1)), (0, .ref a0.1), (1, .ref a1.1), (2, .int p2), (3, .int p3), (4, .int p4), (5, .int j41.1), (6, .int j41.2), (8, .int o33), (9, .int j36)]) hx hb dX4_findPredecessor_75 hl (k := 7) rfl rfl (by decide) rfl (fun ls hl => ?_)
            refine lv_goto (tgt := 9) hx hb dX4_findPredecessor_78 (by decide) ?_
            exact ih9 j41.1 j41.2 (z9_2 + 1) _ hsp _ _ _ hw (lv_sub hl [1, 2, 3, 4, 5, 6, 7, 0] rfl) kx9_81
          have hsp := hsj41
          refine lv_if_eq (tgt := 75) hx hb dX4_findPredecessor_44 (by decide) (fun c42 => ?_) (fun c42 => ?_)
          · have hsp := ift c42 hsp
            have hsp := Option.some.inj hsp
            subst hsp
            exact Jj41 _ _ _ hw (lv_sub hl [1, 2, 3, 4, 5, 6, 7, 8, 9, 0] rfl)
          · have hsp := iff_ c42 hsp
            refine lv_iload hx hb dX4_findPredecessor_47 (lv_at hl 9 rfl) ?_
            refine lv_iload hx hb dX4_findPredecessor_49 (lv_at hl 7 rfl) ?_
            refine lv_icmp_lt (tgt := 75) hx hb dX4_findPredecessor_51 (by decide) (fun c43 => ?_) (fun c43 => ?_)
            · have hsp := ift c43 hsp
              have hsp := Option.some.inj hsp
              subst hsp
              exact Jj41 _ _ _ hw (lv_sub hl [1, 2, 3, 4, 5, 6, 7, 8, 9, 0] rfl)
            · have hsp := iff_ c43 hsp
              refine lv_aload_n hx hb dX4_findPredecessor_54 rfl (lv_at hl 2 rfl) ?_
              refine lv_iload hx hb dX4_findPredecessor_55 (lv_at hl 8 rfl) ?_
              refine lv_iload_n hx hb dX4_findPredecessor_57 rfl (lv_at hl 3 rfl) ?_
              refine lv_iload_n hx hb dX4_findPredecessor_58 rfl (lv_at hl 4 rfl) ?_
              refine lv_iload hx hb dX4_findPredecessor_59 (lv_at hl 5 rfl) ?_
              obtain ⟨o44, hso44, hsp⟩ := bnd_of hsp
              refine k_callS (nA := 5) (As := [.ref a1.1, .int z9_2, .int p2, .int p3, .int p4]) (cs := [w2 cA a1 v1]) (rs := [[(a0.1, .inr (4, [.ref a0.2.1, .ref a0.2.2.1, .ref a0.2.2.2, .int v0.2.2.2]))], [(a0.2.1, .inl (cA, v0.1.1, .inl v0.1.2))], [(a0.2.2.1, .inl (cA, v0.2.1.1, .inl v0.2.1.2))], [(a0.2.2.2, .inl (cA, v0.2.2.1.1, .inl v0.2.2.1.2))]]) (cs1 := [w2 cA a1 v1]) (bs1 := [[(a0.1, .inr (4, [.ref a0.2.1, .ref a0.2.2.1, .ref a0.2.2.2, .int v0.2.2.2]))], [(a0.2.1, .inl (cA, v0.1.1, .inl v0.1.2))], [(a0.2.2.1, .inl (cA, v0.2.1.1, .inl v0.2.1.2))], [(a0.2.2.2, .inl (cA, v0.2.2.1.1, .inl v0.2.2.1.2))], w2 cA a1 v1]) (rest := []) (st1 := [.int o44]) ⟨hx, hb, hml, hown, hts⟩ hz hw hA (mX4_fits l D cA cR a1 v1 z9_2 p2 p3 p4 o44 hso44) gX4_findPredecessor_X4_fits rfl rfl rfl (by decide +kernel) rfl ⟨Nat.le_of_ble_eq_true rfl, Nat.le_of_ble_eq_true rfl⟩ hl.1 rfl (Nat.le_of_ble_eq_true rfl) dX4_findPredecessor_61 ⟨Nat.le_of_ble_eq_true rfl, Nat.le_of_ble_eq_true rfl⟩ [4] [0, 1, 2, 3] [0, 1, 2, 3, 4] rfl rfl rfl rfl rfl rfl (fun H locs hw => ?_)
              refine lv_if_eq (tgt := 75) hx hb dX4_findPredecessor_64 (by decide) (fun c45 => ?_) (fun c45 => ?_)
              · have hsp := ift c45 hsp
                have hsp := Option.some.inj hsp
                subst hsp
                exact Jj41 _ _ _ hw (lv_sub hl [1, 2, 3, 4, 5, 6, 7, 8, 9, 0] rfl)
              · have hsp := iff_ c45 hsp
                refine lv_iload hx hb dX4_findPredecessor_67 (lv_at hl 8 rfl) ?_
                refine lv_istore (lv' := [(5, .int z9_2), (9, .int j36), (0, .ref a0.1), (1, .ref a1.1), (2, .int p2), (3, .int p3), (4, .int p4), (6, .int z9_1), (7, .int z9_2), (8, .int o33)]) hx hb dX4_findPredecessor_69 hl (by decide) rfl (fun ls hl => ?_)
                refine lv_iload hx hb dX4_findPredecessor_71 (lv_at hl 9 rfl) ?_
                refine lv_istore (lv' := [(6, .int o33), (5, .int z9_2), (9, .int j36), (0, .ref a0.1), (1, .ref a1.1), (2, .int p2), (3, .int p3), (4, .int p4), (7, .int z9_2), (8, .int o33)]) hx hb dX4_findPredecessor_73 hl (by decide) rfl (fun ls hl => ?_)
                have hsp := Option.some.inj hsp
                subst hsp
                exact Jj41 _ _ _ hw (lv_sub hl [3, 4, 5, 6, 7, 1, 0, 8, 9, 2] rfl)
        have hsp := hsj36
        refine lv_icmp_ne (tgt := 39) hx hb dX4_findPredecessor_32 (by decide) (fun c46 => ?_) (fun c46 => ?_)
        · have hsp := iff_ c46 hsp
          refine lv_iconst (v := 0) hx hb dX4_findPredecessor_39 (by decide) ?_
          have hsp := Option.some.inj hsp
          subst hsp
          exact Jj36 _ _ _ hw (lv_sub hl [1, 2, 3, 4, 5, 6, 7, 8, 0] rfl)
        · have hsp := ift c46 hsp
          refine lv_iconst (v := 1) hx hb dX4_findPredecessor_35 (by decide) ?_
          refine lv_goto (tgt := 40) hx hb dX4_findPredecessor_36 (by decide) ?_
          have hsp := Option.some.inj hsp
          subst hsp
          exact Jj36 _ _ _ hw (lv_sub hl [1, 2, 3, 4, 5, 6, 7, 8, 0] rfl)
  obtain ⟨o31, hso31, hsp⟩ := bnd_of hsp
  refine L9 N (-1 : Int32) (-1 : Int32) (0 : Int32) _ hso31 _ _ _ hw (lv_sub hl [3, 4, 5, 6, 7, 2, 1, 0] rfl) (fun y81 hy81 H locs ls hw hl => ?_)
  cases hy81
  refine lv_iload hx hb dX4_findPredecessor_81 (lv_at hl 5 rfl) ?_
  have hsp := Option.some.inj hsp
  subst hsp
  have hw : ww A s.heap D [w4 cA a0 v0, w2 cA a1 v1] H locs := hw
  subst hQ
  exact k_iret hx hb hr hlk hw dX4_findPredecessor_83
noncomputable def qX4_find_24 (N : Nat) (v0 : V4) (v1 : V2) (p2 : Int32) (p3 : Int32) (x1 : Int32) : Nat → Int32 → (Nat → Int32) → (Nat → Int32) → (Nat → Int32) → Option (Int32 × (Nat → Int32) × (Nat → Int32) × (Nat → Int32))
  | 0, _, _, _, _ => none
  | n24 + 1, z24_0, z24_1, z24_2, z24_3 => (if x1 ≤ z24_0 then (some (z24_0, z24_1, z24_2, z24_3)) else ((sX4_findPredecessor N ((v0.1.1, z24_1), (v0.2.1.1, z24_2), (v0.2.2.1.1, z24_3), x1) v1 z24_0 p2 p3).bind (fun o45 => (grd (vp_in z24_0 v0.1.1) (lt_ (upd z24_1 z24_0.toNatClampNeg o45) (fun f47 => (grd (vp_in z24_0 v0.2.2.1.1) (lt_ (upd z24_3 z24_0.toNatClampNeg z24_0) (fun f49 => ((sX10_within o45 z24_0).bind (fun o50 => (((if o50 = 0 then (some (z24_2, f49)) else (grd (vp_in o45 v0.2.1.1) (lt_ (upd z24_2 o45.toNatClampNeg z24_0) (fun f60 => (grd (vp_in o45 v0.2.2.1.1) (grd (vp_in z24_0 v0.2.2.1.1) (lt_ (upd f49 z24_0.toNatClampNeg (f49 o45.toNatClampNeg)) (fun f63 => (some (f60, f63)))))))))) : Option ((Nat → Int32) × (Nat → Int32))).bind (fun j57 => (qX4_find_24 N v0 v1 p2 p3 x1 n24 (z24_0 + 1) f47 j57.1 j57.2))))))))))))))
noncomputable def sX4_find (N : Nat) (v0 : V4) (v1 : V2) (p2 : Int32) (p3 : Int32) : Option (V4) := (lt_ (if (50 : Int32) < v1.2.2.2 then (50 : Int32) else v1.2.2.2) (fun x1 => ((sJ7_fill_53178 N v0.2.1 (-1 : Int32)).bind (fun o2 => ((qX4_find_24 N v0 v1 p2 p3 x1 N (0 : Int32) v0.1.2 o2 v0.2.2.1.2).bind (fun o43 => (some ((v0.1.1, o43.2.1), (v0.2.1.1, o43.2.2.1), (v0.2.2.1.1, o43.2.2.2), x1))))))))
abbrev rX4_find : Room := { frames := 4, cells := 0, slots := 0, locals := 99 }
set_option maxHeartbeats 4000000 in
set_option maxRecDepth 100000 in
theorem mX4_find (l : Launch) (D : va_G) (cA cR : ClassId) (N : Nat) (a0 : A4) (v0 : V4) (a1 : A2) (v1 : V2) (p2 : Int32) (p3 : Int32) (o : V4) (hsp : sX4_find N v0 v1 p2 p3 = some o) : MI l yX4_find wsX4_find rX4_find D cA cR [.ref a0.1, .ref a1.1, .int p2, .int p3] [w4 cA a0 v0, w2 cA a1 v1] none [w4 cA a0 o, w2 cA a1 v1] 0 0 := by
  have hsp : (lt_ (if (50 : Int32) < v1.2.2.2 then (50 : Int32) else v1.2.2.2) (fun x1 => ((sJ7_fill_53178 N v0.2.1 (-1 : Int32)).bind (fun o2 => ((qX4_find_24 N v0 v1 p2 p3 x1 N (0 : Int32) v0.1.2 o2 v0.2.2.1.2).bind (fun o43 => (some ((v0.1.1, o43.2.1), (v0.2.1.1, o43.2.2.1), (v0.2.2.1.1, o43.2.2.2), x1)))))))) = some o := hsp
  refine MI.ofW (cc := cX4_find) (maxL := 6) (ret := none) (by decide) rfl (Nat.le_of_ble_eq_true rfl) ?_
  intro p e s m args below meth c A ls Q H locs hx hb hr hlk hml hown hnm hts hz hA hQ hw hl
  have hl : lv_has ls 6 [(0, .ref a0.1), (1, .ref a1.1), (2, .int p2), (3, .int p3)] := hl
  have hw : ww A s.heap D [[(a0.1, .inr (4, [.ref a0.2.1, .ref a0.2.2.1, .ref a0.2.2.2, .int v0.2.2.2]))], [(a0.2.1, .inl (cA, v0.1.1, .inl v0.1.2))], [(a0.2.2.1, .inl (cA, v0.2.1.1, .inl v0.2.1.2))], [(a0.2.2.2, .inl (cA, v0.2.2.1.1, .inl v0.2.2.1.2))], [(a1.1, .inr (2, [.ref a1.2.1.1, .ref a1.2.2.1, .ref a1.2.2.2.1, .int v1.2.2.2]))], w9 cA a1.2.1 v1.1, [(a1.2.2.1, .inl (cA, v1.2.1.1, .inl v1.2.1.2))], w9 cA a1.2.2.2 v1.2.2.1] H locs := hw
  refine lv_aload_n hx hb dX4_find_0 rfl (lv_at hl 0 rfl) ?_
  refine lv_aload_n hx hb dX4_find_1 rfl (lv_at hl 1 rfl) ?_
  refine k_getN (ci := 2) (v := .int v1.2.2.2) (C := RX2) (T := TX2) (N := 4) (host := "OccupancyMonitor") hx hb hts hown hz hw (by decide +kernel) 4 rfl rfl 3 (by decide) (by decide +kernel) (fun _ h9 => h9) rfl dX4_find_2 ?_
  refine lv_bipush (v := 50) hx hb dX4_find_5 (by decide) ?_
  refine va_mmin hx hb (by rw [hml]; exact hl.1.symm) hown (hts (.methodLink RX4 27 Lib.Math.min.name) (by decide +kernel)) (hts (.static Lib.Math.min.name) (by decide +kernel)) (hts (.initialized "java/lang/Math") (by decide +kernel)) (hts (.code Lib.Math.min.name Lib.Math.min.code 2 (some .int)) (by decide +kernel)) (Nat.le_of_ble_eq_true rfl) (Nat.le_of_ble_eq_true rfl) (Nat.le_of_ble_eq_true rfl) (Nat.le_of_ble_eq_true rfl) dX4_find_7 ?_
  refine lv_topi (fun x1 ex1 => ?_)
  have hsp := lt_of hsp ex1
  refine k_put (ci := 4) (v := .int x1) (ty := .int) (C := RX4) (T := TX4) (N := 4) (bs1 := [[(a0.1, .inr (4, [.ref a0.2.1, .ref a0.2.2.1, .ref a0.2.2.2, .int x1]))], [(a0.2.1, .inl (cA, v0.1.1, .inl v0.1.2))], [(a0.2.2.1, .inl (cA, v0.2.1.1, .inl v0.2.1.2))], [(a0.2.2.2, .inl (cA, v0.2.2.1.1, .inl v0.2.2.1.2))], [(a1.1, .inr (2, [.ref a1.2.1.1, .ref a1.2.2.1, .ref a1.2.2.2.1, .int v1.2.2.2]))], w9 cA a1.2.1 v1.1, [(a1.2.2.1, .inl (cA, v1.2.1.1, .inl v1.2.1.2))], w9 cA a1.2.2.2 v1.2.2.1]) hx hb hts hown hz hw (by decide +kernel) tyX4 tyX4_ok nmX4 0 rfl rfl 3 (by decide) (hts (.fieldLink RX4 33 "OccupancyMonitor$HopChains" "count" "I") (by decide +kernel)) (fun _ h9 => h9) rfl (by decide +kernel) rfl rfl (Nat.le_of_ble_eq_true rfl) dX4_find_10 rfl (fun H locs hw => ?_)
  refine lv_aload_n hx hb dX4_find_13 rfl (lv_at hl 0 rfl) ?_
  refine k_get (ci := 4) (v := .ref a0.2.2.1) (C := RX4) (T := TX4) (N := 4) hx hb hts hown hz hw (by decide +kernel) 0 rfl rfl 1 (by decide) (hts (.fieldLink RX4 15 "OccupancyMonitor$HopChains" "successors" "[I") (by decide +kernel)) (fun _ h9 => h9) rfl dX4_find_14 ?_
  refine lv_iconst (v := -1) hx hb dX4_find_17 (by decide) ?_
  obtain ⟨o2, hso2, hsp⟩ := bnd_of hsp
  refine k_callS (nA := 2) (As := [.ref a0.2.2.1, .int (-1 : Int32)]) (cs := [wAr cA a0.2.2.1 v0.2.1]) (rs := [[(a0.1, .inr (4, [.ref a0.2.1, .ref a0.2.2.1, .ref a0.2.2.2, .int x1]))], [(a0.2.1, .inl (cA, v0.1.1, .inl v0.1.2))], [(a0.2.2.2, .inl (cA, v0.2.2.1.1, .inl v0.2.2.1.2))], [(a1.1, .inr (2, [.ref a1.2.1.1, .ref a1.2.2.1, .ref a1.2.2.2.1, .int v1.2.2.2]))], w9 cA a1.2.1 v1.1, [(a1.2.2.1, .inl (cA, v1.2.1.1, .inl v1.2.1.2))], w9 cA a1.2.2.2 v1.2.2.1]) (cs1 := [wAr cA a0.2.2.1 (v0.2.1.1, o2)]) (bs1 := [[(a0.1, .inr (4, [.ref a0.2.1, .ref a0.2.2.1, .ref a0.2.2.2, .int x1]))], [(a0.2.1, .inl (cA, v0.1.1, .inl v0.1.2))], [(a0.2.2.1, .inl (cA, v0.2.1.1, .inl o2))], [(a0.2.2.2, .inl (cA, v0.2.2.1.1, .inl v0.2.2.1.2))], [(a1.1, .inr (2, [.ref a1.2.1.1, .ref a1.2.2.1, .ref a1.2.2.2.1, .int v1.2.2.2]))], w9 cA a1.2.1 v1.1, [(a1.2.2.1, .inl (cA, v1.2.1.1, .inl v1.2.1.2))], w9 cA a1.2.2.2 v1.2.2.1]) (rest := []) (st1 := []) ⟨hx, hb, hml, hown, hts⟩ hz hw hA (mJ7_fill_53178 l D cA cR N a0.2.2.1 v0.2.1 (-1 : Int32) o2 hso2) gX4_find_J7_fill_53178 rfl rfl rfl (by decide +kernel) rfl ⟨Nat.le_of_ble_eq_true rfl, Nat.le_of_ble_eq_true rfl⟩ hl.1 rfl (Nat.le_of_ble_eq_true rfl) dX4_find_18 ⟨Nat.le_of_ble_eq_true rfl, Nat.le_of_ble_eq_true rfl⟩ [2] [0, 1, 3, 4, 5, 6, 7] [0, 1, 7, 2, 3, 4, 5, 6] rfl rfl rfl rfl rfl rfl (fun H locs hw => ?_)
  refine lv_iconst (v := 0) hx hb dX4_find_21 (by decide) ?_
  refine lv_istore (lv' := [(4, .int (0 : Int32)), (0, .ref a0.1), (1, .ref a1.1), (2, .int p2), (3, .int p3)]) hx hb dX4_find_22 hl (by decide) rfl (fun ls hl => ?_)
  have L24 : ∀ (n24 : Nat) (z24_0 : Int32) (z24_1 : (Nat → Int32)) (z24_2 : (Nat → Int32)) (z24_3 : (Nat → Int32)) (o43 : Int32 × (Nat → Int32) × (Nat → Int32) × (Nat → Int32)), qX4_find_24 N v0 v1 p2 p3 x1 n24 z24_0 z24_1 z24_2 z24_3 = some o43 → ∀ (H : Heap) (locs : List Loc) (ls : Array Slot), ww A s.heap D [[(a0.1, .inr (4, [.ref a0.2.1, .ref a0.2.2.1, .ref a0.2.2.2, .int x1]))], [(a0.2.1, .inl (cA, v0.1.1, .inl z24_1))], [(a0.2.2.1, .inl (cA, v0.2.1.1, .inl z24_2))], [(a0.2.2.2, .inl (cA, v0.2.2.1.1, .inl z24_3))], [(a1.1, .inr (2, [.ref a1.2.1.1, .ref a1.2.2.1, .ref a1.2.2.2.1, .int v1.2.2.2]))], w9 cA a1.2.1 v1.1, [(a1.2.2.1, .inl (cA, v1.2.1.1, .inl v1.2.1.2))], w9 cA a1.2.2.2 v1.2.2.1] H locs → lv_has ls 6 [(0, .ref a0.1), (1, .ref a1.1), (2, .int p2), (3, .int p3), (4, .int z24_0)] → (∀ (y101 : Int32 × (Nat → Int32) × (Nat → Int32) × (Nat → Int32)), o43 = y101 → ∀ (H : Heap) (locs : List Loc) (ls : Array Slot), ww A s.heap D [[(a0.1, .inr (4, [.ref a0.2.1, .ref a0.2.2.1, .ref a0.2.2.2, .int x1]))], [(a0.2.1, .inl (cA, v0.1.1, .inl y101.2.1))], [(a0.2.2.1, .inl (cA, v0.2.1.1, .inl y101.2.2.1))], [(a0.2.2.2, .inl (cA, v0.2.2.1.1, .inl y101.2.2.2))], [(a1.1, .inr (2, [.ref a1.2.1.1, .ref a1.2.2.1, .ref a1.2.2.2.1, .int v1.2.2.2]))], w9 cA a1.2.1 v1.1, [(a1.2.2.1, .inl (cA, v1.2.1.1, .inl v1.2.1.2))], w9 cA a1.2.2.2 v1.2.2.1] H locs → lv_has ls 6 [(0, .ref a0.1), (1, .ref a1.1), (2, .int p2), (3, .int p3), (4, .int y101.1)] → W p l e rX4_find s m args below meth c H locs 0 0 Q (F0 m 101 ls [])) → W p l e rX4_find s m args below meth c H locs 0 0 Q (F0 m 24 ls []) := by
    intro n24
    induction n24 with
    | zero => intro z24_0 z24_1 z24_2 z24_3 o43 hsp; cases hsp
    | succ n24 ih24 =>
      intro z24_0 z24_1 z24_2 z24_3 o43 hsp H locs ls hw hl kx24_101
      have hsp : (if x1 ≤ z24_0 then (some (z24_0, z24_1, z24_2, z24_3)) else ((sX4_findPredecessor N ((v0.1.1, z24_1), (v0.2.1.1, z24_2), (v0.2.2.1.1, z24_3), x1) v1 z24_0 p2 p3).bind (fun o45 => (grd (vp_in z24_0 v0.1.1) (lt_ (upd z24_1 z24_0.toNatClampNeg o45) (fun f47 => (grd (vp_in z24_0 v0.2.2.1.1) (lt_ (upd z24_3 z24_0.toNatClampNeg z24_0) (fun f49 => ((sX10_within o45 z24_0).bind (fun o50 => (((if o50 = 0 then (some (z24_2, f49)) else (grd (vp_in o45 v0.2.1.1) (lt_ (upd z24_2 o45.toNatClampNeg z24_0) (fun f60 => (grd (vp_in o45 v0.2.2.1.1) (grd (vp_in z24_0 v0.2.2.1.1) (lt_ (upd f49 z24_0.toNatClampNeg (f49 o45.toNatClampNeg)) (fun f63 => (some (f60, f63)))))))))) : Option ((Nat → Int32) × (Nat → Int32))).bind (fun j57 => (qX4_find_24 N v0 v1 p2 p3 x1 n24 (z24_0 + 1) f47 j57.1 j57.2)))))))))))))) = some o43 := hsp
      refine lv_iload hx hb dX4_find_24 (lv_at hl 4 rfl) ?_
      refine lv_aload_n hx hb dX4_find_26 rfl (lv_at hl 0 rfl) ?_
      refine k_get (ci := 4) (v := .int x1) (C := RX4) (T := TX4) (N := 4) hx hb hts hown hz hw (by decide +kernel) 0 rfl rfl 3 (by decide) (hts (.fieldLink RX4 33 "OccupancyMonitor$HopChains" "count" "I") (by decide +kernel)) (fun _ h9 => h9) rfl dX4_find_27 ?_
      refine lv_icmp_ge (tgt := 101) hx hb dX4_find_30 (by decide) (fun c44 => ?_) (fun c44 => ?_)
      · have hsp := ift c44 hsp
        have hsp := Option.some.inj hsp
        subst hsp
        exact kx24_101 _ rfl _ _ _ hw (lv_sub hl [0, 1, 2, 3, 4] rfl)
      · have hsp := iff_ c44 hsp
        refine lv_aload_n hx hb dX4_find_33 rfl (lv_at hl 0 rfl) ?_
        refine lv_aload_n hx hb dX4_find_34 rfl (lv_at hl 1 rfl) ?_
        refine lv_iload hx hb dX4_find_35 (lv_at hl 4 rfl) ?_
        refine lv_iload_n hx hb dX4_find_37 rfl (lv_at hl 2 rfl) ?_
        refine lv_iload_n hx hb dX4_find_38 rfl (lv_at hl 3 rfl) ?_
        have hw : ww A s.heap D [w4 cA a0 ((v0.1.1, z24_1), (v0.2.1.1, z24_2), (v0.2.2.1.1, z24_3), x1), w2 cA a1 v1] H locs := hw
        obtain ⟨o45, hso45, hsp⟩ := bnd_of hsp
        refine k_callV (ci := 4) (C := RX4) (T := TX4) (N := 4) (nA := 4) (As := [.ref a1.1, .int z24_0, .int p2, .int p3]) (cs := [w4 cA a0 ((v0.1.1, z24_1), (v0.2.1.1, z24_2), (v0.2.2.1.1, z24_3), x1), w2 cA a1 v1]) (rs := []) (cs1 := [w4 cA a0 ((v0.1.1, z24_1), (v0.2.1.1, z24_2), (v0.2.2.1.1, z24_3), x1), w2 cA a1 v1]) (bs1 := [w4 cA a0 ((v0.1.1, z24_1), (v0.2.1.1, z24_2), (v0.2.2.1.1, z24_3), x1), w2 cA a1 v1]) (rest := []) (st1 := [.int o45]) ⟨hx, hb, hml, hown, hts⟩ hz hw hA (mX4_findPredecessor l D cA cR N a0 ((v0.1.1, z24_1), (v0.2.1.1, z24_2), (v0.2.2.1.1, z24_3), x1) a1 v1 z24_0 p2 p3 o45 hso45) gX4_find_X4_findPredecessor rfl rfl rfl (by decide +kernel) rfl ⟨Nat.le_of_ble_eq_true rfl, Nat.le_of_ble_eq_true rfl⟩ rfl rfl hl.1 rfl (Nat.le_of_ble_eq_true rfl) dX4_find_39 ⟨Nat.le_of_ble_eq_true rfl, Nat.le_of_ble_eq_true rfl⟩ [0, 1] [] [0, 1] rfl rfl rfl rfl rfl rfl (fun H locs hw => ?_)
        have hw : ww A s.heap D [[(a0.1, .inr (4, [.ref a0.2.1, .ref a0.2.2.1, .ref a0.2.2.2, .int x1]))], [(a0.2.1, .inl (cA, v0.1.1, .inl z24_1))], [(a0.2.2.1, .inl (cA, v0.2.1.1, .inl z24_2))], [(a0.2.2.2, .inl (cA, v0.2.2.1.1, .inl z24_3))], [(a1.1, .inr (2, [.ref a1.2.1.1, .ref a1.2.2.1, .ref a1.2.2.2.1, .int v1.2.2.2]))], w9 cA a1.2.1 v1.1, [(a1.2.2.1, .inl (cA, v1.2.1.1, .inl v1.2.1.2))], w9 cA a1.2.2.2 v1.2.2.1] H locs := hw
        refine lv_istore (lv' := [(5, .int o45), (0, .ref a0.1), (1, .ref a1.1), (2, .int p2), (3, .int p3), (4, .int z24_0)]) hx hb dX4_find_42 hl (by decide) rfl (fun ls hl => ?_)
        refine lv_aload_n hx hb dX4_find_44 rfl (lv_at hl 1 rfl) ?_
        refine k_get (ci := 4) (v := .ref a0.2.1) (C := RX4) (T := TX4) (N := 4) hx hb hts hown hz hw (by decide +kernel) 0 rfl rfl 0 (by decide) (hts (.fieldLink RX4 9 "OccupancyMonitor$HopChains" "predecessors" "[I") (by decide +kernel)) (fun _ h9 => h9) rfl dX4_find_45 ?_
        refine lv_iload hx hb dX4_find_48 (lv_at hl 5 rfl) ?_
        refine lv_iload hx hb dX4_find_50 (lv_at hl 0 rfl) ?_
        obtain ⟨g46, hsp⟩ := grd_of hsp
        obtain ⟨f47, ef47⟩ : ∃ u : Nat → Int32, u = (upd z24_1 z24_0.toNatClampNeg o45) := ⟨_, rfl⟩
        have hsp := lt_of hsp ef47
        refine k_iast (bs1 := [[(a0.1, .inr (4, [.ref a0.2.1, .ref a0.2.2.1, .ref a0.2.2.2, .int x1]))], [(a0.2.1, .inl (cA, v0.1.1, .inl f47))], [(a0.2.2.1, .inl (cA, v0.2.1.1, .inl z24_2))], [(a0.2.2.2, .inl (cA, v0.2.2.1.1, .inl z24_3))], [(a1.1, .inr (2, [.ref a1.2.1.1, .ref a1.2.2.1, .ref a1.2.2.2.1, .int v1.2.2.2]))], w9 cA a1.2.1 v1.1, [(a1.2.2.1, .inl (cA, v1.2.1.1, .inl v1.2.1.2))], w9 cA a1.2.2.2 v1.2.2.1]) hx hb hz hw 1 rfl g46 dX4_find_52 (by rw [ef47]; rfl) (fun H locs hw => ?_)
        refine lv_aload_n hx hb dX4_find_53 rfl (lv_at hl 1 rfl) ?_
        refine k_get (ci := 4) (v := .ref a0.2.2.2) (C := RX4) (T := TX4) (N := 4) hx hb hts hown hz hw (by decide +kernel) 0 rfl rfl 2 (by decide) (hts (.fieldLink RX4 18 "OccupancyMonitor$HopChains" "firsts" "[I") (by decide +kernel)) (fun _ h9 => h9) rfl dX4_find_54 ?_
        refine lv_iload hx hb dX4_find_57 (lv_at hl 5 rfl) ?_
        refine lv_iload hx hb dX4_find_59 (lv_at hl 5 rfl) ?_
        obtain ⟨g48, hsp⟩ := grd_of hsp
        obtain ⟨f49, ef49⟩ : ∃ u : Nat → Int32, u = (upd z24_3 z24_0.toNatClampNeg z24_0) := ⟨_, rfl⟩
        have hsp := lt_of hsp ef49
        refine k_iast (bs1 := [[(a0.1, .inr (4, [.ref a0.2.1, .ref a0.2.2.1, .ref a0.2.2.2, .int x1]))], [(a0.2.1, .inl (cA, v0.1.1, .inl f47))], [(a0.2.2.1, .inl (cA, v0.2.1.1, .inl z24_2))], [(a0.2.2.2, .inl (cA, v0.2.2.1.1, .inl f49))], [(a1.1, .inr (2, [.ref a1.2.1.1, .ref a1.2.2.1, .ref a1.2.2.2.1, .int v1.2.2.2]))], w9 cA a1.2.1 v1.1, [(a1.2.2.1, .inl (cA, v1.2.1.1, .inl v1.2.1.2))], w9 cA a1.2.2.2 v1.2.2.1]) hx hb hz hw 3 rfl g48 dX4_find_61 (by rw [ef49]; rfl) (fun H locs hw => ?_)
        refine lv_iload hx hb dX4_find_62 (lv_at hl 0 rfl) ?_
        refine lv_iload hx hb dX4_find_64 (lv_at hl 5 rfl) ?_
        obtain ⟨o50, hso50, hsp⟩ := bnd_of hsp
        refine k_callSN (nA := 2) (As := [.int o45, .int z24_0]) (host := "OccupancyMonitor") (cs := []) (rs := [[(a0.1, .inr (4, [.ref a0.2.1, .ref a0.2.2.1, .ref a0.2.2.2, .int x1]))], [(a0.2.1, .inl (cA, v0.1.1, .inl f47))], [(a0.2.2.1, .inl (cA, v0.2.1.1, .inl z24_2))], [(a0.2.2.2, .inl (cA, v0.2.2.1.1, .inl f49))], [(a1.1, .inr (2, [.ref a1.2.1.1, .ref a1.2.2.1, .ref a1.2.2.2.1, .int v1.2.2.2]))], w9 cA a1.2.1 v1.1, [(a1.2.2.1, .inl (cA, v1.2.1.1, .inl v1.2.1.2))], w9 cA a1.2.2.2 v1.2.2.1]) (cs1 := []) (bs1 := [[(a0.1, .inr (4, [.ref a0.2.1, .ref a0.2.2.1, .ref a0.2.2.2, .int x1]))], [(a0.2.1, .inl (cA, v0.1.1, .inl f47))], [(a0.2.2.1, .inl (cA, v0.2.1.1, .inl z24_2))], [(a0.2.2.2, .inl (cA, v0.2.2.1.1, .inl f49))], [(a1.1, .inr (2, [.ref a1.2.1.1, .ref a1.2.2.1, .ref a1.2.2.2.1, .int v1.2.2.2]))], w9 cA a1.2.1 v1.1, [(a1.2.2.1, .inl (cA, v1.2.1.1, .inl v1.2.1.2))], w9 cA a1.2.2.2 v1.2.2.1]) (rest := []) (st1 := [.int o50]) ⟨hx, hb, hml, hown, hts⟩ hz hw hA (mX10_within l D cA cR o45 z24_0 o50 hso50) gX4_find_X10_within_n44 rfl rfl rfl (by decide +kernel) (by decide +kernel) (by decide +kernel) (by decide +kernel) rfl ⟨Nat.le_of_ble_eq_true rfl, Nat.le_of_ble_eq_true rfl⟩ hl.1 rfl (Nat.le_of_ble_eq_true rfl) dX4_find_66 ⟨Nat.le_of_ble_eq_true rfl, Nat.le_of_ble_eq_true rfl⟩ [] [0, 1, 2, 3, 4, 5, 6, 7] [0, 1, 2, 3, 4, 5, 6, 7] rfl rfl rfl rfl rfl rfl (fun H locs hw => ?_)
        obtain ⟨j57, hsj57, hkj57⟩ := bnd_of hsp
        have Jj57 : ∀ (H : Heap) (locs : List Loc) (ls : Array Slot), ww A s.heap D [[(a0.1, .inr (4, [.ref a0.2.1, .ref a0.2.2.1, .ref a0.2.2.2, .int x1]))], [(a0.2.1, .inl (cA, v0.1.1, .inl f47))], [(a0.2.2.1, .inl (cA, v0.2.1.1, .inl j57.1))], [(a0.2.2.2, .inl (cA, v0.2.2.1.1, .inl j57.2))], [(a1.1, .inr (2, [.ref a1.2.1.1, .ref a1.2.2.1, .ref a1.2.2.2.1, .int v1.2.2.2]))], w9 cA a1.2.1 v1.1, [(a1.2.2.1, .inl (cA, v1.2.1.1, .inl v1.2.1.2))], w9 cA a1.2.2.2 v1.2.2.1] H locs → lv_has ls 6 [(0, .ref a0.1), (1, .ref a1.1), (2, .int p2), (3, .int p3), (4, .int z24_0), (5, .int o45)] → W p l e rX4_find s m args below meth c H locs 0 0 Q (F0 m 95 ls []) := by
          intro H locs ls hw hl
          have hsp := hkj57
          refine lv_iinc (v := (z24_0 + 1)) (lv' := [(4, .int (z24_0 + 1)), (0, .ref a0.1), (1, .ref a1.1), (2, .int p2), (3, .int p3), (5, .int o45)]) hx hb dX4_find_95 hl (k := 4) rfl rfl (by decide) rfl (fun ls hl => ?_)
          refine lv_goto (tgt := 24) hx hb dX4_find_98 (by decide) ?_
          exact ih24 (z24_0 + 1) f47 j57.1 j57.2 _ hsp _ _ _ hw (lv_sub hl [1, 2, 3, 4, 0] rfl) kx24_101
        have hsp := hsj57
        refine lv_if_eq (tgt := 95) hx hb dX4_find_69 (by decide) (fun c58 => ?_) (fun c58 => ?_)
        · have hsp := ift c58 hsp
          have hsp := Option.some.inj hsp
          subst hsp
          exact Jj57 _ _ _ hw (lv_sub hl [1, 2, 3, 4, 5, 0] rfl)
        · have hsp := iff_ c58 hsp
          refine lv_aload_n hx hb dX4_find_72 rfl (lv_at hl 1 rfl) ?_
          refine k_get (ci := 4) (v := .ref a0.2.2.1) (C := RX4) (T := TX4) (N := 4) hx hb hts hown hz hw (by decide +kernel) 0 rfl rfl 1 (by decide) (hts (.fieldLink RX4 15 "OccupancyMonitor$HopChains" "successors" "[I") (by decide +kernel)) (fun _ h9 => h9) rfl dX4_find_73 ?_
          refine lv_iload hx hb dX4_find_76 (lv_at hl 0 rfl) ?_
          refine lv_iload hx hb dX4_find_78 (lv_at hl 5 rfl) ?_
          obtain ⟨g59, hsp⟩ := grd_of hsp
          obtain ⟨f60, ef60⟩ : ∃ u : Nat → Int32, u = (upd z24_2 o45.toNatClampNeg z24_0) := ⟨_, rfl⟩
          have hsp := lt_of hsp ef60
          refine k_iast (bs1 := [[(a0.1, .inr (4, [.ref a0.2.1, .ref a0.2.2.1, .ref a0.2.2.2, .int x1]))], [(a0.2.1, .inl (cA, v0.1.1, .inl f47))], [(a0.2.2.1, .inl (cA, v0.2.1.1, .inl f60))], [(a0.2.2.2, .inl (cA, v0.2.2.1.1, .inl f49))], [(a1.1, .inr (2, [.ref a1.2.1.1, .ref a1.2.2.1, .ref a1.2.2.2.1, .int v1.2.2.2]))], w9 cA a1.2.1 v1.1, [(a1.2.2.1, .inl (cA, v1.2.1.1, .inl v1.2.1.2))], w9 cA a1.2.2.2 v1.2.2.1]) hx hb hz hw 2 rfl g59 dX4_find_80 (by rw [ef60]; rfl) (fun H locs hw => ?_)
          refine lv_aload_n hx hb dX4_find_81 rfl (lv_at hl 1 rfl) ?_
          refine k_get (ci := 4) (v := .ref a0.2.2.2) (C := RX4) (T := TX4) (N := 4) hx hb hts hown hz hw (by decide +kernel) 0 rfl rfl 2 (by decide) (hts (.fieldLink RX4 18 "OccupancyMonitor$HopChains" "firsts" "[I") (by decide +kernel)) (fun _ h9 => h9) rfl dX4_find_82 ?_
          refine lv_iload hx hb dX4_find_85 (lv_at hl 5 rfl) ?_
          refine lv_aload_n hx hb dX4_find_87 rfl (lv_at hl 1 rfl) ?_
          refine k_get (ci := 4) (v := .ref a0.2.2.2) (C := RX4) (T := TX4) (N := 4) hx hb hts hown hz hw (by decide +kernel) 0 rfl rfl 2 (by decide) (hts (.fieldLink RX4 18 "OccupancyMonitor$HopChains" "firsts" "[I") (by decide +kernel)) (fun _ h9 => h9) rfl dX4_find_88 ?_
          refine lv_iload hx hb dX4_find_91 (lv_at hl 0 rfl) ?_
          obtain ⟨g61, hsp⟩ := grd_of hsp
          refine k_iald hx hb hz hw 3 rfl g61 dX4_find_93 ?_
          obtain ⟨g62, hsp⟩ := grd_of hsp
          obtain ⟨f63, ef63⟩ : ∃ u : Nat → Int32, u = (upd f49 z24_0.toNatClampNeg (f49 o45.toNatClampNeg)) := ⟨_, rfl⟩
          have hsp := lt_of hsp ef63
          refine k_iast (bs1 := [[(a0.1, .inr (4, [.ref a0.2.1, .ref a0.2.2.1, .ref a0.2.2.2, .int x1]))], [(a0.2.1, .inl (cA, v0.1.1, .inl f47))], [(a0.2.2.1, .inl (cA, v0.2.1.1, .inl f60))], [(a0.2.2.2, .inl (cA, v0.2.2.1.1, .inl f63))], [(a1.1, .inr (2, [.ref a1.2.1.1, .ref a1.2.2.1, .ref a1.2.2.2.1, .int v1.2.2.2]))], w9 cA a1.2.1 v1.1, [(a1.2.2.1, .inl (cA, v1.2.1.1, .inl v1.2.1.2))], w9 cA a1.2.2.2 v1.2.2.1]) hx hb hz hw 3 rfl g62 dX4_find_94 (by rw [ef63]; rfl) (fun H locs hw => ?_)
          have hsp := Option.some.inj hsp
          subst hsp
          exact Jj57 _ _ _ hw (lv_sub hl [1, 2, 3, 4, 5, 0] rfl)
  obtain ⟨o43, hso43, hsp⟩ := bnd_of hsp
  refine L24 N (0 : Int32) v0.1.2 o2 v0.2.2.1.2 _ hso43 _ _ _ hw (lv_sub hl [1, 2, 3, 4, 0] rfl) (fun y101 hy101 H locs ls hw hl => ?_)
  cases hy101
  have hsp := Option.some.inj hsp
  subst hsp
  have hw : ww A s.heap D [w4 cA a0 ((v0.1.1, o43.2.1), (v0.2.1.1, o43.2.2.1), (v0.2.2.1.1, o43.2.2.2), x1), w2 cA a1 v1] H locs := hw
  subst hQ
  exact k_vret hx hb hr hlk hw dX4_find_101
noncomputable def sX4_predecessorOf (v0 : V4) (p1 : Int32) : Option (Int32) := ((sX10_within p1 v0.2.2.2).bind (fun o1 => (if o1 = 0 then (some (-1 : Int32)) else (grd (vp_in p1 v0.1.1) (some (v0.1.2 p1.toNatClampNeg))))))
abbrev rX4_predecessorOf : Room := { frames := 1, cells := 0, slots := 0, locals := 21 }
set_option maxHeartbeats 4000000 in
set_option maxRecDepth 100000 in
theorem mX4_predecessorOf (l : Launch) (D : va_G) (cA cR : ClassId) (a0 : A4) (v0 : V4) (p1 : Int32) (o : Int32) (hsp : sX4_predecessorOf v0 p1 = some o) : MI l yX4_predecessorOf wsX4_predecessorOf rX4_predecessorOf D cA cR [.ref a0.1, .int p1] [w4 cA a0 v0] (some (.int o)) [w4 cA a0 v0] 0 0 := by
  have hsp : ((sX10_within p1 v0.2.2.2).bind (fun o1 => (if o1 = 0 then (some (-1 : Int32)) else (grd (vp_in p1 v0.1.1) (some (v0.1.2 p1.toNatClampNeg)))))) = some o := hsp
  refine MI.ofW (cc := cX4_predecessorOf) (maxL := 2) (ret := (some .int)) (by decide) rfl (Nat.le_of_ble_eq_true rfl) ?_
  intro p e s m args below meth c A ls Q H locs hx hb hr hlk hml hown hnm hts hz hA hQ hw hl
  have hl : lv_has ls 2 [(0, .ref a0.1), (1, .int p1)] := hl
  have hw : ww A s.heap D [[(a0.1, .inr (4, [.ref a0.2.1, .ref a0.2.2.1, .ref a0.2.2.2, .int v0.2.2.2]))], [(a0.2.1, .inl (cA, v0.1.1, .inl v0.1.2))], [(a0.2.2.1, .inl (cA, v0.2.1.1, .inl v0.2.1.2))], [(a0.2.2.2, .inl (cA, v0.2.2.1.1, .inl v0.2.2.1.2))]] H locs := hw
  refine lv_iload_n hx hb dX4_predecessorOf_0 rfl (lv_at hl 1 rfl) ?_
  refine lv_aload_n hx hb dX4_predecessorOf_1 rfl (lv_at hl 0 rfl) ?_
  refine k_get (ci := 4) (v := .int v0.2.2.2) (C := RX4) (T := TX4) (N := 4) hx hb hts hown hz hw (by decide +kernel) 0 rfl rfl 3 (by decide) (hts (.fieldLink RX4 33 "OccupancyMonitor$HopChains" "count" "I") (by decide +kernel)) (fun _ h9 => h9) rfl dX4_predecessorOf_2 ?_
  obtain ⟨o1, hso1, hsp⟩ := bnd_of hsp
  refine k_callSN (nA := 2) (As := [.int p1, .int v0.2.2.2]) (host := "OccupancyMonitor") (cs := []) (rs := [[(a0.1, .inr (4, [.ref a0.2.1, .ref a0.2.2.1, .ref a0.2.2.2, .int v0.2.2.2]))], [(a0.2.1, .inl (cA, v0.1.1, .inl v0.1.2))], [(a0.2.2.1, .inl (cA, v0.2.1.1, .inl v0.2.1.2))], [(a0.2.2.2, .inl (cA, v0.2.2.1.1, .inl v0.2.2.1.2))]]) (cs1 := []) (bs1 := [[(a0.1, .inr (4, [.ref a0.2.1, .ref a0.2.2.1, .ref a0.2.2.2, .int v0.2.2.2]))], [(a0.2.1, .inl (cA, v0.1.1, .inl v0.1.2))], [(a0.2.2.1, .inl (cA, v0.2.1.1, .inl v0.2.1.2))], [(a0.2.2.2, .inl (cA, v0.2.2.1.1, .inl v0.2.2.1.2))]]) (rest := []) (st1 := [.int o1]) ⟨hx, hb, hml, hown, hts⟩ hz hw hA (mX10_within l D cA cR p1 v0.2.2.2 o1 hso1) gX4_predecessorOf_X10_within_n44 rfl rfl rfl (by decide +kernel) (by decide +kernel) (by decide +kernel) (by decide +kernel) rfl ⟨Nat.le_of_ble_eq_true rfl, Nat.le_of_ble_eq_true rfl⟩ hl.1 rfl (Nat.le_of_ble_eq_true rfl) dX4_predecessorOf_5 ⟨Nat.le_of_ble_eq_true rfl, Nat.le_of_ble_eq_true rfl⟩ [] [0, 1, 2, 3] [0, 1, 2, 3] rfl rfl rfl rfl rfl rfl (fun H locs hw => ?_)
  refine lv_if_eq (tgt := 20) hx hb dX4_predecessorOf_8 (by decide) (fun c2 => ?_) (fun c2 => ?_)
  · have hsp := ift c2 hsp
    refine lv_iconst (v := -1) hx hb dX4_predecessorOf_20 (by decide) ?_
    have hsp := Option.some.inj hsp
    subst hsp
    have hw : ww A s.heap D [w4 cA a0 v0] H locs := hw
    subst hQ
    exact k_iret hx hb hr hlk hw dX4_predecessorOf_21
  · have hsp := iff_ c2 hsp
    refine lv_aload_n hx hb dX4_predecessorOf_11 rfl (lv_at hl 0 rfl) ?_
    refine k_get (ci := 4) (v := .ref a0.2.1) (C := RX4) (T := TX4) (N := 4) hx hb hts hown hz hw (by decide +kernel) 0 rfl rfl 0 (by decide) (hts (.fieldLink RX4 9 "OccupancyMonitor$HopChains" "predecessors" "[I") (by decide +kernel)) (fun _ h9 => h9) rfl dX4_predecessorOf_12 ?_
    refine lv_iload_n hx hb dX4_predecessorOf_15 rfl (lv_at hl 1 rfl) ?_
    obtain ⟨g3, hsp⟩ := grd_of hsp
    refine k_iald hx hb hz hw 1 rfl g3 dX4_predecessorOf_16 ?_
    refine lv_goto (tgt := 21) hx hb dX4_predecessorOf_17 (by decide) ?_
    have hsp := Option.some.inj hsp
    subst hsp
    have hw : ww A s.heap D [w4 cA a0 v0] H locs := hw
    subst hQ
    exact k_iret hx hb hr hlk hw dX4_predecessorOf_21
noncomputable def sX4_firstOf (v0 : V4) (p1 : Int32) : Option (Int32) := ((sX10_within p1 v0.2.2.2).bind (fun o1 => (if o1 = 0 then (some (-1 : Int32)) else (grd (vp_in p1 v0.2.2.1.1) (some (v0.2.2.1.2 p1.toNatClampNeg))))))
abbrev rX4_firstOf : Room := { frames := 1, cells := 0, slots := 0, locals := 21 }
set_option maxHeartbeats 4000000 in
set_option maxRecDepth 100000 in
theorem mX4_firstOf (l : Launch) (D : va_G) (cA cR : ClassId) (a0 : A4) (v0 : V4) (p1 : Int32) (o : Int32) (hsp : sX4_firstOf v0 p1 = some o) : MI l yX4_firstOf wsX4_firstOf rX4_firstOf D cA cR [.ref a0.1, .int p1] [w4 cA a0 v0] (some (.int o)) [w4 cA a0 v0] 0 0 := by
  have hsp : ((sX10_within p1 v0.2.2.2).bind (fun o1 => (if o1 = 0 then (some (-1 : Int32)) else (grd (vp_in p1 v0.2.2.1.1) (some (v0.2.2.1.2 p1.toNatClampNeg)))))) = some o := hsp
  refine MI.ofW (cc := cX4_firstOf) (maxL := 2) (ret := (some .int)) (by decide) rfl (Nat.le_of_ble_eq_true rfl) ?_
  intro p e s m args below meth c A ls Q H locs hx hb hr hlk hml hown hnm hts hz hA hQ hw hl
  have hl : lv_has ls 2 [(0, .ref a0.1), (1, .int p1)] := hl
  have hw : ww A s.heap D [[(a0.1, .inr (4, [.ref a0.2.1, .ref a0.2.2.1, .ref a0.2.2.2, .int v0.2.2.2]))], [(a0.2.1, .inl (cA, v0.1.1, .inl v0.1.2))], [(a0.2.2.1, .inl (cA, v0.2.1.1, .inl v0.2.1.2))], [(a0.2.2.2, .inl (cA, v0.2.2.1.1, .inl v0.2.2.1.2))]] H locs := hw
  refine lv_iload_n hx hb dX4_firstOf_0 rfl (lv_at hl 1 rfl) ?_
  refine lv_aload_n hx hb dX4_firstOf_1 rfl (lv_at hl 0 rfl) ?_
  refine k_get (ci := 4) (v := .int v0.2.2.2) (C := RX4) (T := TX4) (N := 4) hx hb hts hown hz hw (by decide +kernel) 0 rfl rfl 3 (by decide) (hts (.fieldLink RX4 33 "OccupancyMonitor$HopChains" "count" "I") (by decide +kernel)) (fun _ h9 => h9) rfl dX4_firstOf_2 ?_
  obtain ⟨o1, hso1, hsp⟩ := bnd_of hsp
  refine k_callSN (nA := 2) (As := [.int p1, .int v0.2.2.2]) (host := "OccupancyMonitor") (cs := []) (rs := [[(a0.1, .inr (4, [.ref a0.2.1, .ref a0.2.2.1, .ref a0.2.2.2, .int v0.2.2.2]))], [(a0.2.1, .inl (cA, v0.1.1, .inl v0.1.2))], [(a0.2.2.1, .inl (cA, v0.2.1.1, .inl v0.2.1.2))], [(a0.2.2.2, .inl (cA, v0.2.2.1.1, .inl v0.2.2.1.2))]]) (cs1 := []) (bs1 := [[(a0.1, .inr (4, [.ref a0.2.1, .ref a0.2.2.1, .ref a0.2.2.2, .int v0.2.2.2]))], [(a0.2.1, .inl (cA, v0.1.1, .inl v0.1.2))], [(a0.2.2.1, .inl (cA, v0.2.1.1, .inl v0.2.1.2))], [(a0.2.2.2, .inl (cA, v0.2.2.1.1, .inl v0.2.2.1.2))]]) (rest := []) (st1 := [.int o1]) ⟨hx, hb, hml, hown, hts⟩ hz hw hA (mX10_within l D cA cR p1 v0.2.2.2 o1 hso1) gX4_firstOf_X10_within_n44 rfl rfl rfl (by decide +kernel) (by decide +kernel) (by decide +kernel) (by decide +kernel) rfl ⟨Nat.le_of_ble_eq_true rfl, Nat.le_of_ble_eq_true rfl⟩ hl.1 rfl (Nat.le_of_ble_eq_true rfl) dX4_firstOf_5 ⟨Nat.le_of_ble_eq_true rfl, Nat.le_of_ble_eq_true rfl⟩ [] [0, 1, 2, 3] [0, 1, 2, 3] rfl rfl rfl rfl rfl rfl (fun H locs hw => ?_)
  refine lv_if_eq (tgt := 20) hx hb dX4_firstOf_8 (by decide) (fun c2 => ?_) (fun c2 => ?_)
  · have hsp := ift c2 hsp
    refine lv_iconst (v := -1) hx hb dX4_firstOf_20 (by decide) ?_
    have hsp := Option.some.inj hsp
    subst hsp
    have hw : ww A s.heap D [w4 cA a0 v0] H locs := hw
    subst hQ
    exact k_iret hx hb hr hlk hw dX4_firstOf_21
  · have hsp := iff_ c2 hsp
    refine lv_aload_n hx hb dX4_firstOf_11 rfl (lv_at hl 0 rfl) ?_
    refine k_get (ci := 4) (v := .ref a0.2.2.2) (C := RX4) (T := TX4) (N := 4) hx hb hts hown hz hw (by decide +kernel) 0 rfl rfl 2 (by decide) (hts (.fieldLink RX4 18 "OccupancyMonitor$HopChains" "firsts" "[I") (by decide +kernel)) (fun _ h9 => h9) rfl dX4_firstOf_12 ?_
    refine lv_iload_n hx hb dX4_firstOf_15 rfl (lv_at hl 1 rfl) ?_
    obtain ⟨g3, hsp⟩ := grd_of hsp
    refine k_iald hx hb hz hw 3 rfl g3 dX4_firstOf_16 ?_
    refine lv_goto (tgt := 21) hx hb dX4_firstOf_17 (by decide) ?_
    have hsp := Option.some.inj hsp
    subst hsp
    have hw : ww A s.heap D [w4 cA a0 v0] H locs := hw
    subst hQ
    exact k_iret hx hb hr hlk hw dX4_firstOf_21
noncomputable def qX4_lengthFrom_4 (v0 : V4) (p1 : Int32) : Nat → Int32 → Int32 → Option (Int32 × Int32)
  | 0, _, _ => none
  | n4 + 1, z4_0, z4_1 => (if v0.2.2.2 ≤ z4_1 then (some (z4_0, z4_1)) else (grd (vp_in z4_1 v0.2.2.1.1) (((if (v0.2.2.1.2 z4_1.toNatClampNeg) = p1 then (some (1 : Int32)) else (some (0 : Int32))) : Option (Int32)).bind (fun j15 => (qX4_lengthFrom_4 v0 p1 n4 (z4_0 + j15) (z4_1 + 1))))))
noncomputable def sX4_lengthFrom (N : Nat) (v0 : V4) (p1 : Int32) : Option (Int32) := ((qX4_lengthFrom_4 v0 p1 N (0 : Int32) (0 : Int32)).bind (fun o11 => (some o11.1)))
abbrev rX4_lengthFrom : Room := { frames := 0, cells := 0, slots := 0, locals := 0 }
set_option maxHeartbeats 4000000 in
set_option maxRecDepth 100000 in
theorem mX4_lengthFrom (l : Launch) (D : va_G) (cA cR : ClassId) (N : Nat) (a0 : A4) (v0 : V4) (p1 : Int32) (o : Int32) (hsp : sX4_lengthFrom N v0 p1 = some o) : MI l yX4_lengthFrom wsX4_lengthFrom rX4_lengthFrom D cA cR [.ref a0.1, .int p1] [w4 cA a0 v0] (some (.int o)) [w4 cA a0 v0] 0 0 := by
  have hsp : ((qX4_lengthFrom_4 v0 p1 N (0 : Int32) (0 : Int32)).bind (fun o11 => (some o11.1))) = some o := hsp
  refine MI.ofW (cc := cX4_lengthFrom) (maxL := 4) (ret := (some .int)) (by decide) rfl (Nat.le_of_ble_eq_true rfl) ?_
  intro p e s m args below meth c A ls Q H locs hx hb hr hlk hml hown hnm hts hz hA hQ hw hl
  have hl : lv_has ls 4 [(0, .ref a0.1), (1, .int p1)] := hl
  have hw : ww A s.heap D [[(a0.1, .inr (4, [.ref a0.2.1, .ref a0.2.2.1, .ref a0.2.2.2, .int v0.2.2.2]))], [(a0.2.1, .inl (cA, v0.1.1, .inl v0.1.2))], [(a0.2.2.1, .inl (cA, v0.2.1.1, .inl v0.2.1.2))], [(a0.2.2.2, .inl (cA, v0.2.2.1.1, .inl v0.2.2.1.2))]] H locs := hw
  refine lv_iconst (v := 0) hx hb dX4_lengthFrom_0 (by decide) ?_
  refine lv_istore_n (lv' := [(2, .int (0 : Int32)), (0, .ref a0.1), (1, .int p1)]) hx hb dX4_lengthFrom_1 rfl hl (by decide) rfl (fun ls hl => ?_)
  refine lv_iconst (v := 0) hx hb dX4_lengthFrom_2 (by decide) ?_
  refine lv_istore_n (lv' := [(3, .int (0 : Int32)), (2, .int (0 : Int32)), (0, .ref a0.1), (1, .int p1)]) hx hb dX4_lengthFrom_3 rfl hl (by decide) rfl (fun ls hl => ?_)
  have L4 : ∀ (n4 : Nat) (z4_0 : Int32) (z4_1 : Int32) (o11 : Int32 × Int32), qX4_lengthFrom_4 v0 p1 n4 z4_0 z4_1 = some o11 → ∀ (H : Heap) (locs : List Loc) (ls : Array Slot), ww A s.heap D [[(a0.1, .inr (4, [.ref a0.2.1, .ref a0.2.2.1, .ref a0.2.2.2, .int v0.2.2.2]))], [(a0.2.1, .inl (cA, v0.1.1, .inl v0.1.2))], [(a0.2.2.1, .inl (cA, v0.2.1.1, .inl v0.2.1.2))], [(a0.2.2.2, .inl (cA, v0.2.2.1.1, .inl v0.2.2.1.2))]] H locs → lv_has ls 4 [(0, .ref a0.1), (1, .int p1), (2, .int z4_0), (3, .int z4_1)] → (∀ (y36 : Int32 × Int32), o11 = y36 → ∀ (H : Heap) (locs : List Loc) (ls : Array Slot), ww A s.heap D [[(a0.1, .inr (4, [.ref a0.2.1, .ref a0.2.2.1, .ref a0.2.2.2, .int v0.2.2.2]))], [(a0.2.1, .inl (cA, v0.1.1, .inl v0.1.2))], [(a0.2.2.1, .inl (cA, v0.2.1.1, .inl v0.2.1.2))], [(a0.2.2.2, .inl (cA, v0.2.2.1.1, .inl v0.2.2.1.2))]] H locs → lv_has ls 4 [(0, .ref a0.1), (1, .int p1), (2, .int y36.1), (3, .int y36.2)] → W p l e rX4_lengthFrom s m args below meth c H locs 0 0 Q (F0 m 36 ls [])) → W p l e rX4_lengthFrom s m args below meth c H locs 0 0 Q (F0 m 4 ls []) := by
    intro n4
    induction n4 with
    | zero => intro z4_0 z4_1 o11 hsp; cases hsp
    | succ n4 ih4 =>
      intro z4_0 z4_1 o11 hsp H locs ls hw hl kx4_36
      have hsp : (if v0.2.2.2 ≤ z4_1 then (some (z4_0, z4_1)) else (grd (vp_in z4_1 v0.2.2.1.1) (((if (v0.2.2.1.2 z4_1.toNatClampNeg) = p1 then (some (1 : Int32)) else (some (0 : Int32))) : Option (Int32)).bind (fun j15 => (qX4_lengthFrom_4 v0 p1 n4 (z4_0 + j15) (z4_1 + 1)))))) = some o11 := hsp
      refine lv_iload_n hx hb dX4_lengthFrom_4 rfl (lv_at hl 3 rfl) ?_
      refine lv_aload_n hx hb dX4_lengthFrom_5 rfl (lv_at hl 0 rfl) ?_
      refine k_get (ci := 4) (v := .int v0.2.2.2) (C := RX4) (T := TX4) (N := 4) hx hb hts hown hz hw (by decide +kernel) 0 rfl rfl 3 (by decide) (hts (.fieldLink RX4 33 "OccupancyMonitor$HopChains" "count" "I") (by decide +kernel)) (fun _ h9 => h9) rfl dX4_lengthFrom_6 ?_
      refine lv_icmp_ge (tgt := 36) hx hb dX4_lengthFrom_9 (by decide) (fun c12 => ?_) (fun c12 => ?_)
      · have hsp := ift c12 hsp
        have hsp := Option.some.inj hsp
        subst hsp
        exact kx4_36 _ rfl _ _ _ hw (lv_sub hl [0, 1, 2, 3] rfl)
      · have hsp := iff_ c12 hsp
        refine lv_iload_n hx hb dX4_lengthFrom_12 rfl (lv_at hl 2 rfl) ?_
        refine lv_aload_n hx hb dX4_lengthFrom_13 rfl (lv_at hl 0 rfl) ?_
        refine k_get (ci := 4) (v := .ref a0.2.2.2) (C := RX4) (T := TX4) (N := 4) hx hb hts hown hz hw (by decide +kernel) 0 rfl rfl 2 (by decide) (hts (.fieldLink RX4 18 "OccupancyMonitor$HopChains" "firsts" "[I") (by decide +kernel)) (fun _ h9 => h9) rfl dX4_lengthFrom_14 ?_
        refine lv_iload_n hx hb dX4_lengthFrom_17 rfl (lv_at hl 3 rfl) ?_
        obtain ⟨g13, hsp⟩ := grd_of hsp
        refine k_iald hx hb hz hw 3 rfl g13 dX4_lengthFrom_18 ?_
        refine lv_iload_n hx hb dX4_lengthFrom_19 rfl (lv_at hl 1 rfl) ?_
        obtain ⟨j15, hsj15, hkj15⟩ := bnd_of hsp
        have Jj15 : ∀ (H : Heap) (locs : List Loc) (ls : Array Slot), ww A s.heap D [[(a0.1, .inr (4, [.ref a0.2.1, .ref a0.2.2.1, .ref a0.2.2.2, .int v0.2.2.2]))], [(a0.2.1, .inl (cA, v0.1.1, .inl v0.1.2))], [(a0.2.2.1, .inl (cA, v0.2.1.1, .inl v0.2.1.2))], [(a0.2.2.2, .inl (cA, v0.2.2.1.1, .inl v0.2.2.1.2))]] H locs → lv_has ls 4 [(0, .ref a0.1), (1, .int p1), (2, .int z4_0), (3, .int z4_1)] → W p l e rX4_lengthFrom s m args below meth c H locs 0 0 Q (F0 m 28 ls [.int j15, .int z4_0]) := by
          intro H locs ls hw hl
          have hsp := hkj15
          refine lv_iadd hx hb dX4_lengthFrom_28 ?_
          refine lv_istore_n (lv' := [(2, .int (z4_0 + j15)), (0, .ref a0.1), (1, .int p1), (3, .int z4_1)]) hx hb dX4_lengthFrom_29 rfl hl (by decide) rfl (fun ls hl => ?_)
          refine lv_iinc (v := (z4_1 + 1)) (lv' := [(3, .int (z4_1 + 1)), (2, .int (z4_0 + j15)), (0, .ref a0.1), (1, .int p1)]) hx hb dX4_lengthFrom_30 hl (k := 3) rfl rfl (by decide) rfl (fun ls hl => ?_)
          refine lv_goto (tgt := 4) hx hb dX4_lengthFrom_33 (by decide) ?_
          exact ih4 (z4_0 + j15) (z4_1 + 1) _ hsp _ _ _ hw (lv_sub hl [2, 3, 1, 0] rfl) kx4_36
        have hsp := hsj15
        refine lv_icmp_ne (tgt := 27) hx hb dX4_lengthFrom_20 (by decide) (fun c16 => ?_) (fun c16 => ?_)
        · have hsp := iff_ c16 hsp
          refine lv_iconst (v := 0) hx hb dX4_lengthFrom_27 (by decide) ?_
          have hsp := Option.some.inj hsp
          subst hsp
          exact Jj15 _ _ _ hw (lv_sub hl [0, 1, 2, 3] rfl)
        · have hsp := ift c16 hsp
          refine lv_iconst (v := 1) hx hb dX4_lengthFrom_23 (by decide) ?_
          refine lv_goto (tgt := 28) hx hb dX4_lengthFrom_24 (by decide) ?_
          have hsp := Option.some.inj hsp
          subst hsp
          exact Jj15 _ _ _ hw (lv_sub hl [0, 1, 2, 3] rfl)
  obtain ⟨o11, hso11, hsp⟩ := bnd_of hsp
  refine L4 N (0 : Int32) (0 : Int32) _ hso11 _ _ _ hw (lv_sub hl [2, 3, 1, 0] rfl) (fun y36 hy36 H locs ls hw hl => ?_)
  cases hy36
  refine lv_iload_n hx hb dX4_lengthFrom_36 rfl (lv_at hl 2 rfl) ?_
  have hsp := Option.some.inj hsp
  subst hsp
  have hw : ww A s.heap D [w4 cA a0 v0] H locs := hw
  subst hQ
  exact k_iret hx hb hr hlk hw dX4_lengthFrom_37
noncomputable def qX4_lastFrom_4 (v0 : V4) (p1 : Int32) : Nat → Int32 → Int32 → Option (Int32 × Int32)
  | 0, _, _ => none
  | n4 + 1, z4_0, z4_1 => (if v0.2.2.2 ≤ z4_1 then (some (z4_0, z4_1)) else (grd (vp_in z4_1 v0.2.2.1.1) (((if (v0.2.2.1.2 z4_1.toNatClampNeg) = p1 then (some z4_1) else (some z4_0)) : Option (Int32)).bind (fun j15 => (qX4_lastFrom_4 v0 p1 n4 j15 (z4_1 + 1))))))
noncomputable def sX4_lastFrom (N : Nat) (v0 : V4) (p1 : Int32) : Option (Int32) := ((qX4_lastFrom_4 v0 p1 N (-1 : Int32) (0 : Int32)).bind (fun o11 => (some o11.1)))
abbrev rX4_lastFrom : Room := { frames := 0, cells := 0, slots := 0, locals := 0 }
set_option maxHeartbeats 4000000 in
set_option maxRecDepth 100000 in
theorem mX4_lastFrom (l : Launch) (D : va_G) (cA cR : ClassId) (N : Nat) (a0 : A4) (v0 : V4) (p1 : Int32) (o : Int32) (hsp : sX4_lastFrom N v0 p1 = some o) : MI l yX4_lastFrom wsX4_lastFrom rX4_lastFrom D cA cR [.ref a0.1, .int p1] [w4 cA a0 v0] (some (.int o)) [w4 cA a0 v0] 0 0 := by
  have hsp : ((qX4_lastFrom_4 v0 p1 N (-1 : Int32) (0 : Int32)).bind (fun o11 => (some o11.1))) = some o := hsp
  refine MI.ofW (cc := cX4_lastFrom) (maxL := 4) (ret := (some .int)) (by decide) rfl (Nat.le_of_ble_eq_true rfl) ?_
  intro p e s m args below meth c A ls Q H locs hx hb hr hlk hml hown hnm hts hz hA hQ hw hl
  have hl : lv_has ls 4 [(0, .ref a0.1), (1, .int p1)] := hl
  have hw : ww A s.heap D [[(a0.1, .inr (4, [.ref a0.2.1, .ref a0.2.2.1, .ref a0.2.2.2, .int v0.2.2.2]))], [(a0.2.1, .inl (cA, v0.1.1, .inl v0.1.2))], [(a0.2.2.1, .inl (cA, v0.2.1.1, .inl v0.2.1.2))], [(a0.2.2.2, .inl (cA, v0.2.2.1.1, .inl v0.2.2.1.2))]] H locs := hw
  refine lv_iconst (v := -1) hx hb dX4_lastFrom_0 (by decide) ?_
  refine lv_istore_n (lv' := [(2, .int (-1 : Int32)), (0, .ref a0.1), (1, .int p1)]) hx hb dX4_lastFrom_1 rfl hl (by decide) rfl (fun ls hl => ?_)
  refine lv_iconst (v := 0) hx hb dX4_lastFrom_2 (by decide) ?_
  refine lv_istore_n (lv' := [(3, .int (0 : Int32)), (2, .int (-1 : Int32)), (0, .ref a0.1), (1, .int p1)]) hx hb dX4_lastFrom_3 rfl hl (by decide) rfl (fun ls hl => ?_)
  have L4 : ∀ (n4 : Nat) (z4_0 : Int32) (z4_1 : Int32) (o11 : Int32 × Int32), qX4_lastFrom_4 v0 p1 n4 z4_0 z4_1 = some o11 → ∀ (H : Heap) (locs : List Loc) (ls : Array Slot), ww A s.heap D [[(a0.1, .inr (4, [.ref a0.2.1, .ref a0.2.2.1, .ref a0.2.2.2, .int v0.2.2.2]))], [(a0.2.1, .inl (cA, v0.1.1, .inl v0.1.2))], [(a0.2.2.1, .inl (cA, v0.2.1.1, .inl v0.2.1.2))], [(a0.2.2.2, .inl (cA, v0.2.2.1.1, .inl v0.2.2.1.2))]] H locs → lv_has ls 4 [(0, .ref a0.1), (1, .int p1), (2, .int z4_0), (3, .int z4_1)] → (∀ (y34 : Int32 × Int32), o11 = y34 → ∀ (H : Heap) (locs : List Loc) (ls : Array Slot), ww A s.heap D [[(a0.1, .inr (4, [.ref a0.2.1, .ref a0.2.2.1, .ref a0.2.2.2, .int v0.2.2.2]))], [(a0.2.1, .inl (cA, v0.1.1, .inl v0.1.2))], [(a0.2.2.1, .inl (cA, v0.2.1.1, .inl v0.2.1.2))], [(a0.2.2.2, .inl (cA, v0.2.2.1.1, .inl v0.2.2.1.2))]] H locs → lv_has ls 4 [(0, .ref a0.1), (1, .int p1), (2, .int y34.1), (3, .int y34.2)] → W p l e rX4_lastFrom s m args below meth c H locs 0 0 Q (F0 m 34 ls [])) → W p l e rX4_lastFrom s m args below meth c H locs 0 0 Q (F0 m 4 ls []) := by
    intro n4
    induction n4 with
    | zero => intro z4_0 z4_1 o11 hsp; cases hsp
    | succ n4 ih4 =>
      intro z4_0 z4_1 o11 hsp H locs ls hw hl kx4_34
      have hsp : (if v0.2.2.2 ≤ z4_1 then (some (z4_0, z4_1)) else (grd (vp_in z4_1 v0.2.2.1.1) (((if (v0.2.2.1.2 z4_1.toNatClampNeg) = p1 then (some z4_1) else (some z4_0)) : Option (Int32)).bind (fun j15 => (qX4_lastFrom_4 v0 p1 n4 j15 (z4_1 + 1)))))) = some o11 := hsp
      refine lv_iload_n hx hb dX4_lastFrom_4 rfl (lv_at hl 3 rfl) ?_
      refine lv_aload_n hx hb dX4_lastFrom_5 rfl (lv_at hl 0 rfl) ?_
      refine k_get (ci := 4) (v := .int v0.2.2.2) (C := RX4) (T := TX4) (N := 4) hx hb hts hown hz hw (by decide +kernel) 0 rfl rfl 3 (by decide) (hts (.fieldLink RX4 33 "OccupancyMonitor$HopChains" "count" "I") (by decide +kernel)) (fun _ h9 => h9) rfl dX4_lastFrom_6 ?_
      refine lv_icmp_ge (tgt := 34) hx hb dX4_lastFrom_9 (by decide) (fun c12 => ?_) (fun c12 => ?_)
      · have hsp := ift c12 hsp
        have hsp := Option.some.inj hsp
        subst hsp
        exact kx4_34 _ rfl _ _ _ hw (lv_sub hl [0, 1, 2, 3] rfl)
      · have hsp := iff_ c12 hsp
        refine lv_aload_n hx hb dX4_lastFrom_12 rfl (lv_at hl 0 rfl) ?_
        refine k_get (ci := 4) (v := .ref a0.2.2.2) (C := RX4) (T := TX4) (N := 4) hx hb hts hown hz hw (by decide +kernel) 0 rfl rfl 2 (by decide) (hts (.fieldLink RX4 18 "OccupancyMonitor$HopChains" "firsts" "[I") (by decide +kernel)) (fun _ h9 => h9) rfl dX4_lastFrom_13 ?_
        refine lv_iload_n hx hb dX4_lastFrom_16 rfl (lv_at hl 3 rfl) ?_
        obtain ⟨g13, hsp⟩ := grd_of hsp
        refine k_iald hx hb hz hw 3 rfl g13 dX4_lastFrom_17 ?_
        refine lv_iload_n hx hb dX4_lastFrom_18 rfl (lv_at hl 1 rfl) ?_
        obtain ⟨j15, hsj15, hkj15⟩ := bnd_of hsp
        have Jj15 : ∀ (H : Heap) (locs : List Loc) (ls : Array Slot), ww A s.heap D [[(a0.1, .inr (4, [.ref a0.2.1, .ref a0.2.2.1, .ref a0.2.2.2, .int v0.2.2.2]))], [(a0.2.1, .inl (cA, v0.1.1, .inl v0.1.2))], [(a0.2.2.1, .inl (cA, v0.2.1.1, .inl v0.2.1.2))], [(a0.2.2.2, .inl (cA, v0.2.2.1.1, .inl v0.2.2.1.2))]] H locs → lv_has ls 4 [(0, .ref a0.1), (1, .int p1), (2, .int z4_0), (3, .int z4_1)] → W p l e rX4_lastFrom s m args below meth c H locs 0 0 Q (F0 m 27 ls [.int j15]) := by
          intro H locs ls hw hl
          have hsp := hkj15
          refine lv_istore_n (lv' := [(2, .int j15), (0, .ref a0.1), (1, .int p1), (3, .int z4_1)]) hx hb dX4_lastFrom_27 rfl hl (by decide) rfl (fun ls hl => ?_)
          refine lv_iinc (v := (z4_1 + 1)) (lv' := [(3, .int (z4_1 + 1)), (2, .int j15), (0, .ref a0.1), (1, .int p1)]) hx hb dX4_lastFrom_28 hl (k := 3) rfl rfl (by decide) rfl (fun ls hl => ?_)
          refine lv_goto (tgt := 4) hx hb dX4_lastFrom_31 (by decide) ?_
          exact ih4 j15 (z4_1 + 1) _ hsp _ _ _ hw (lv_sub hl [2, 3, 1, 0] rfl) kx4_34
        have hsp := hsj15
        refine lv_icmp_ne (tgt := 26) hx hb dX4_lastFrom_19 (by decide) (fun c16 => ?_) (fun c16 => ?_)
        · have hsp := iff_ c16 hsp
          refine lv_iload_n hx hb dX4_lastFrom_26 rfl (lv_at hl 2 rfl) ?_
          have hsp := Option.some.inj hsp
          subst hsp
          exact Jj15 _ _ _ hw (lv_sub hl [0, 1, 2, 3] rfl)
        · have hsp := ift c16 hsp
          refine lv_iload_n hx hb dX4_lastFrom_22 rfl (lv_at hl 3 rfl) ?_
          refine lv_goto (tgt := 27) hx hb dX4_lastFrom_23 (by decide) ?_
          have hsp := Option.some.inj hsp
          subst hsp
          exact Jj15 _ _ _ hw (lv_sub hl [0, 1, 2, 3] rfl)
  obtain ⟨o11, hso11, hsp⟩ := bnd_of hsp
  refine L4 N (-1 : Int32) (0 : Int32) _ hso11 _ _ _ hw (lv_sub hl [2, 3, 1, 0] rfl) (fun y34 hy34 H locs ls hw hl => ?_)
  cases hy34
  refine lv_iload_n hx hb dX4_lastFrom_34 rfl (lv_at hl 2 rfl) ?_
  have hsp := Option.some.inj hsp
  subst hsp
  have hw : ww A s.heap D [w4 cA a0 v0] H locs := hw
  subst hQ
  exact k_iret hx hb hr hlk hw dX4_lastFrom_35
noncomputable def qX4_number_4 (v0 : V4) : Nat → Int32 → Int32 → Option (Int32 × Int32)
  | 0, _, _ => none
  | n4 + 1, z4_0, z4_1 => (if v0.2.2.2 ≤ z4_1 then (some (z4_0, z4_1)) else (grd (vp_in z4_1 v0.2.2.1.1) (((if (v0.2.2.1.2 z4_1.toNatClampNeg) = z4_1 then (some (1 : Int32)) else (some (0 : Int32))) : Option (Int32)).bind (fun j15 => (qX4_number_4 v0 n4 (z4_0 + j15) (z4_1 + 1))))))
noncomputable def sX4_number (N : Nat) (v0 : V4) : Option (Int32) := ((qX4_number_4 v0 N (0 : Int32) (0 : Int32)).bind (fun o11 => (some o11.1)))
abbrev rX4_number : Room := { frames := 0, cells := 0, slots := 0, locals := 0 }
set_option maxHeartbeats 4000000 in
set_option maxRecDepth 100000 in
theorem mX4_number (l : Launch) (D : va_G) (cA cR : ClassId) (N : Nat) (a0 : A4) (v0 : V4) (o : Int32) (hsp : sX4_number N v0 = some o) : MI l yX4_number wsX4_number rX4_number D cA cR [.ref a0.1] [w4 cA a0 v0] (some (.int o)) [w4 cA a0 v0] 0 0 := by
  have hsp : ((qX4_number_4 v0 N (0 : Int32) (0 : Int32)).bind (fun o11 => (some o11.1))) = some o := hsp
  refine MI.ofW (cc := cX4_number) (maxL := 3) (ret := (some .int)) (by decide) rfl (Nat.le_of_ble_eq_true rfl) ?_
  intro p e s m args below meth c A ls Q H locs hx hb hr hlk hml hown hnm hts hz hA hQ hw hl
  have hl : lv_has ls 3 [(0, .ref a0.1)] := hl
  have hw : ww A s.heap D [[(a0.1, .inr (4, [.ref a0.2.1, .ref a0.2.2.1, .ref a0.2.2.2, .int v0.2.2.2]))], [(a0.2.1, .inl (cA, v0.1.1, .inl v0.1.2))], [(a0.2.2.1, .inl (cA, v0.2.1.1, .inl v0.2.1.2))], [(a0.2.2.2, .inl (cA, v0.2.2.1.1, .inl v0.2.2.1.2))]] H locs := hw
  refine lv_iconst (v := 0) hx hb dX4_number_0 (by decide) ?_
  refine lv_istore_n (lv' := [(1, .int (0 : Int32)), (0, .ref a0.1)]) hx hb dX4_number_1 rfl hl (by decide) rfl (fun ls hl => ?_)
  refine lv_iconst (v := 0) hx hb dX4_number_2 (by decide) ?_
  refine lv_istore_n (lv' := [(2, .int (0 : Int32)), (1, .int (0 : Int32)), (0, .ref a0.1)]) hx hb dX4_number_3 rfl hl (by decide) rfl (fun ls hl => ?_)
  have L4 : ∀ (n4 : Nat) (z4_0 : Int32) (z4_1 : Int32) (o11 : Int32 × Int32), qX4_number_4 v0 n4 z4_0 z4_1 = some o11 → ∀ (H : Heap) (locs : List Loc) (ls : Array Slot), ww A s.heap D [[(a0.1, .inr (4, [.ref a0.2.1, .ref a0.2.2.1, .ref a0.2.2.2, .int v0.2.2.2]))], [(a0.2.1, .inl (cA, v0.1.1, .inl v0.1.2))], [(a0.2.2.1, .inl (cA, v0.2.1.1, .inl v0.2.1.2))], [(a0.2.2.2, .inl (cA, v0.2.2.1.1, .inl v0.2.2.1.2))]] H locs → lv_has ls 3 [(0, .ref a0.1), (1, .int z4_0), (2, .int z4_1)] → (∀ (y36 : Int32 × Int32), o11 = y36 → ∀ (H : Heap) (locs : List Loc) (ls : Array Slot), ww A s.heap D [[(a0.1, .inr (4, [.ref a0.2.1, .ref a0.2.2.1, .ref a0.2.2.2, .int v0.2.2.2]))], [(a0.2.1, .inl (cA, v0.1.1, .inl v0.1.2))], [(a0.2.2.1, .inl (cA, v0.2.1.1, .inl v0.2.1.2))], [(a0.2.2.2, .inl (cA, v0.2.2.1.1, .inl v0.2.2.1.2))]] H locs → lv_has ls 3 [(0, .ref a0.1), (1, .int y36.1), (2, .int y36.2)] → W p l e rX4_number s m args below meth c H locs 0 0 Q (F0 m 36 ls [])) → W p l e rX4_number s m args below meth c H locs 0 0 Q (F0 m 4 ls []) := by
    intro n4
    induction n4 with
    | zero => intro z4_0 z4_1 o11 hsp; cases hsp
    | succ n4 ih4 =>
      intro z4_0 z4_1 o11 hsp H locs ls hw hl kx4_36
      have hsp : (if v0.2.2.2 ≤ z4_1 then (some (z4_0, z4_1)) else (grd (vp_in z4_1 v0.2.2.1.1) (((if (v0.2.2.1.2 z4_1.toNatClampNeg) = z4_1 then (some (1 : Int32)) else (some (0 : Int32))) : Option (Int32)).bind (fun j15 => (qX4_number_4 v0 n4 (z4_0 + j15) (z4_1 + 1)))))) = some o11 := hsp
      refine lv_iload_n hx hb dX4_number_4 rfl (lv_at hl 2 rfl) ?_
      refine lv_aload_n hx hb dX4_number_5 rfl (lv_at hl 0 rfl) ?_
      refine k_get (ci := 4) (v := .int v0.2.2.2) (C := RX4) (T := TX4) (N := 4) hx hb hts hown hz hw (by decide +kernel) 0 rfl rfl 3 (by decide) (hts (.fieldLink RX4 33 "OccupancyMonitor$HopChains" "count" "I") (by decide +kernel)) (fun _ h9 => h9) rfl dX4_number_6 ?_
      refine lv_icmp_ge (tgt := 36) hx hb dX4_number_9 (by decide) (fun c12 => ?_) (fun c12 => ?_)
      · have hsp := ift c12 hsp
        have hsp := Option.some.inj hsp
        subst hsp
        exact kx4_36 _ rfl _ _ _ hw (lv_sub hl [0, 1, 2] rfl)
      · have hsp := iff_ c12 hsp
        refine lv_iload_n hx hb dX4_number_12 rfl (lv_at hl 1 rfl) ?_
        refine lv_aload_n hx hb dX4_number_13 rfl (lv_at hl 0 rfl) ?_
        refine k_get (ci := 4) (v := .ref a0.2.2.2) (C := RX4) (T := TX4) (N := 4) hx hb hts hown hz hw (by decide +kernel) 0 rfl rfl 2 (by decide) (hts (.fieldLink RX4 18 "OccupancyMonitor$HopChains" "firsts" "[I") (by decide +kernel)) (fun _ h9 => h9) rfl dX4_number_14 ?_
        refine lv_iload_n hx hb dX4_number_17 rfl (lv_at hl 2 rfl) ?_
        obtain ⟨g13, hsp⟩ := grd_of hsp
        refine k_iald hx hb hz hw 3 rfl g13 dX4_number_18 ?_
        refine lv_iload_n hx hb dX4_number_19 rfl (lv_at hl 2 rfl) ?_
        obtain ⟨j15, hsj15, hkj15⟩ := bnd_of hsp
        have Jj15 : ∀ (H : Heap) (locs : List Loc) (ls : Array Slot), ww A s.heap D [[(a0.1, .inr (4, [.ref a0.2.1, .ref a0.2.2.1, .ref a0.2.2.2, .int v0.2.2.2]))], [(a0.2.1, .inl (cA, v0.1.1, .inl v0.1.2))], [(a0.2.2.1, .inl (cA, v0.2.1.1, .inl v0.2.1.2))], [(a0.2.2.2, .inl (cA, v0.2.2.1.1, .inl v0.2.2.1.2))]] H locs → lv_has ls 3 [(0, .ref a0.1), (1, .int z4_0), (2, .int z4_1)] → W p l e rX4_number s m args below meth c H locs 0 0 Q (F0 m 28 ls [.int j15, .int z4_0]) := by
          intro H locs ls hw hl
          have hsp := hkj15
          refine lv_iadd hx hb dX4_number_28 ?_
          refine lv_istore_n (lv' := [(1, .int (z4_0 + j15)), (0, .ref a0.1), (2, .int z4_1)]) hx hb dX4_number_29 rfl hl (by decide) rfl (fun ls hl => ?_)
          refine lv_iinc (v := (z4_1 + 1)) (lv' := [(2, .int (z4_1 + 1)), (1, .int (z4_0 + j15)), (0, .ref a0.1)]) hx hb dX4_number_30 hl (k := 2) rfl rfl (by decide) rfl (fun ls hl => ?_)
          refine lv_goto (tgt := 4) hx hb dX4_number_33 (by decide) ?_
          exact ih4 (z4_0 + j15) (z4_1 + 1) _ hsp _ _ _ hw (lv_sub hl [2, 1, 0] rfl) kx4_36
        have hsp := hsj15
        refine lv_icmp_ne (tgt := 27) hx hb dX4_number_20 (by decide) (fun c16 => ?_) (fun c16 => ?_)
        · have hsp := iff_ c16 hsp
          refine lv_iconst (v := 0) hx hb dX4_number_27 (by decide) ?_
          have hsp := Option.some.inj hsp
          subst hsp
          exact Jj15 _ _ _ hw (lv_sub hl [0, 1, 2] rfl)
        · have hsp := ift c16 hsp
          refine lv_iconst (v := 1) hx hb dX4_number_23 (by decide) ?_
          refine lv_goto (tgt := 28) hx hb dX4_number_24 (by decide) ?_
          have hsp := Option.some.inj hsp
          subst hsp
          exact Jj15 _ _ _ hw (lv_sub hl [0, 1, 2] rfl)
  obtain ⟨o11, hso11, hsp⟩ := bnd_of hsp
  refine L4 N (0 : Int32) (0 : Int32) _ hso11 _ _ _ hw (lv_sub hl [2, 1, 0] rfl) (fun y36 hy36 H locs ls hw hl => ?_)
  cases hy36
  refine lv_iload_n hx hb dX4_number_36 rfl (lv_at hl 1 rfl) ?_
  have hsp := Option.some.inj hsp
  subst hsp
  have hw : ww A s.heap D [w4 cA a0 v0] H locs := hw
  subst hQ
  exact k_iret hx hb hr hlk hw dX4_number_37
