noncomputable def sX10_within (p1 : Int32) (p2 : Int32) : Option (Int32) := (if p1 < 0 then (some (0 : Int32)) else (if p2 ≤ p1 then (some (0 : Int32)) else (some (1 : Int32))))
abbrev rX10_within : Room := { frames := 0, cells := 0, slots := 0, locals := 0 }
set_option maxHeartbeats 4000000 in
set_option maxRecDepth 100000 in
theorem mX10_within (l : Launch) (D : va_G) (cA cR : ClassId) (p1 : Int32) (p2 : Int32) (o : Int32) (hsp : sX10_within p1 p2 = some o) : MI l yX10_within wsX10_within rX10_within D cA cR [.int p1, .int p2] [] (some (.int o)) [] 0 0 := by
  have hsp : (if p1 < 0 then (some (0 : Int32)) else (if p2 ≤ p1 then (some (0 : Int32)) else (some (1 : Int32)))) = some o := hsp
  refine MI.ofW (cc := cX10_within) (maxL := 2) (ret := (some .boolean)) (by decide) rfl (Nat.le_of_ble_eq_true rfl) ?_
  intro p e s m args below meth c A ls Q H locs hx hb hr hlk hml hown hnm hts hz hA hQ hw hl
  have hl : lv_has ls 2 [(0, .int p1), (1, .int p2)] := hl
  have hw : ww A s.heap D [] H locs := hw
  refine lv_iload_n hx hb dX10_within_0 rfl (lv_at hl 0 rfl) ?_
  refine lv_if_lt (tgt := 13) hx hb dX10_within_1 (by decide) (fun c1 => ?_) (fun c1 => ?_)
  · have hsp := ift c1 hsp
    refine lv_iconst (v := 0) hx hb dX10_within_13 (by decide) ?_
    have hsp := Option.some.inj hsp
    subst hsp
    have hw : ww A s.heap D [] H locs := hw
    subst hQ
    exact k_zret (v := (0 : Int32)) hx hb hr hlk rfl hw dX10_within_14
  · have hsp := iff_ c1 hsp
    refine lv_iload_n hx hb dX10_within_4 rfl (lv_at hl 0 rfl) ?_
    refine lv_iload_n hx hb dX10_within_5 rfl (lv_at hl 1 rfl) ?_
    refine lv_icmp_ge (tgt := 13) hx hb dX10_within_6 (by decide) (fun c2 => ?_) (fun c2 => ?_)
    · have hsp := ift c2 hsp
      refine lv_iconst (v := 0) hx hb dX10_within_13 (by decide) ?_
      have hsp := Option.some.inj hsp
      subst hsp
      have hw : ww A s.heap D [] H locs := hw
      subst hQ
      exact k_zret (v := (0 : Int32)) hx hb hr hlk rfl hw dX10_within_14
    · have hsp := iff_ c2 hsp
      refine lv_iconst (v := 1) hx hb dX10_within_9 (by decide) ?_
      refine lv_goto (tgt := 14) hx hb dX10_within_10 (by decide) ?_
      have hsp := Option.some.inj hsp
      subst hsp
      have hw : ww A s.heap D [] H locs := hw
      subst hQ
      exact k_zret (v := (1 : Int32)) hx hb hr hlk rfl hw dX10_within_14
noncomputable def qJ7_fill_53178_5 (v0 : Nat × (Nat → Int32)) (p2 : Int32) : Nat → Int32 → (Nat → Int32) → Option (Int32 × (Nat → Int32))
  | 0, _, _ => none
  | n5 + 1, z5_0, z5_1 => (if (nI v0.1) ≤ z5_0 then (some (z5_0, z5_1)) else (grd (vp_in z5_0 v0.1) (lt_ (upd z5_1 z5_0.toNatClampNeg p2) (fun f10 => (qJ7_fill_53178_5 v0 p2 n5 (z5_0 + 1) f10)))))
noncomputable def sJ7_fill_53178 (N : Nat) (v0 : Nat × (Nat → Int32)) (p2 : Int32) : Option ((Nat → Int32)) := ((qJ7_fill_53178_5 v0 p2 N (0 : Int32) v0.2).bind (fun o7 => (some o7.2)))
abbrev rJ7_fill_53178 : Room := { frames := 0, cells := 0, slots := 0, locals := 0 }
set_option maxHeartbeats 4000000 in
set_option maxRecDepth 100000 in
theorem mJ7_fill_53178 (l : Launch) (D : va_G) (cA cR : ClassId) (N : Nat) (a0 : Nat) (v0 : Nat × (Nat → Int32)) (p2 : Int32) (o : (Nat → Int32)) (hsp : sJ7_fill_53178 N v0 p2 = some o) : MI l yJ7_fill_53178 wsJ7_fill_53178 rJ7_fill_53178 D cA cR [.ref a0, .int p2] [wAr cA a0 v0] none [wAr cA a0 (v0.1, o)] 0 0 := by
  have hsp : ((qJ7_fill_53178_5 v0 p2 N (0 : Int32) v0.2).bind (fun o7 => (some o7.2))) = some o := hsp
  refine MI.ofW (cc := cJ7_fill_53178) (maxL := 4) (ret := none) (by decide) rfl (Nat.le_of_ble_eq_true rfl) ?_
  intro p e s m args below meth c A ls Q H locs hx hb hr hlk hml hown hnm hts hz hA hQ hw hl
  have hl : lv_has ls 4 [(0, .ref a0), (1, .int p2)] := hl
  have hw : ww A s.heap D [[(a0, .inl (cA, v0.1, .inl v0.2))]] H locs := hw
  refine lv_iconst (v := 0) hx hb dJ7_fill_53178_0 (by decide) ?_
  refine lv_istore_n (lv' := [(2, .int (0 : Int32)), (0, .ref a0), (1, .int p2)]) hx hb dJ7_fill_53178_1 rfl hl (by decide) rfl (fun ls hl => ?_)
  refine lv_aload_n hx hb dJ7_fill_53178_2 rfl (lv_at hl 1 rfl) ?_
  refine k_alen hx hb hz hw 0 rfl dJ7_fill_53178_3 ?_
  refine lv_istore_n (lv' := [(3, .int (nI v0.1)), (2, .int (0 : Int32)), (0, .ref a0), (1, .int p2)]) hx hb dJ7_fill_53178_4 rfl hl (by decide) rfl (fun ls hl => ?_)
  have L5 : ∀ (n5 : Nat) (z5_0 : Int32) (z5_1 : (Nat → Int32)) (o7 : Int32 × (Nat → Int32)), qJ7_fill_53178_5 v0 p2 n5 z5_0 z5_1 = some o7 → ∀ (H : Heap) (locs : List Loc) (ls : Array Slot), ww A s.heap D [[(a0, .inl (cA, v0.1, .inl z5_1))]] H locs → lv_has ls 4 [(0, .ref a0), (1, .int p2), (2, .int z5_0), (3, .int (nI v0.1))] → (∀ (y20 : Int32 × (Nat → Int32)), o7 = y20 → ∀ (H : Heap) (locs : List Loc) (ls : Array Slot), ww A s.heap D [[(a0, .inl (cA, v0.1, .inl y20.2))]] H locs → lv_has ls 4 [(0, .ref a0), (1, .int p2), (2, .int y20.1), (3, .int (nI v0.1))] → W p l e rJ7_fill_53178 s m args below meth c H locs 0 0 Q (F0 m 20 ls [])) → W p l e rJ7_fill_53178 s m args below meth c H locs 0 0 Q (F0 m 5 ls []) := by
    intro n5
    induction n5 with
    | zero => intro z5_0 z5_1 o7 hsp; cases hsp
    | succ n5 ih5 =>
      intro z5_0 z5_1 o7 hsp H locs ls hw hl kx5_20
      have hsp : (if (nI v0.1) ≤ z5_0 then (some (z5_0, z5_1)) else (grd (vp_in z5_0 v0.1) (lt_ (upd z5_1 z5_0.toNatClampNeg p2) (fun f10 => (qJ7_fill_53178_5 v0 p2 n5 (z5_0 + 1) f10))))) = some o7 := hsp
      refine lv_iload_n hx hb dJ7_fill_53178_5 rfl (lv_at hl 2 rfl) ?_
      refine lv_iload_n hx hb dJ7_fill_53178_6 rfl (lv_at hl 3 rfl) ?_
      refine lv_icmp_ge (tgt := 20) hx hb dJ7_fill_53178_7 (by decide) (fun c8 => ?_) (fun c8 => ?_)
      · have hsp := ift c8 hsp
        have hsp := Option.some.inj hsp
        subst hsp
        exact kx5_20 _ rfl _ _ _ hw (lv_sub hl [0, 1, 2, 3] rfl)
      · have hsp := iff_ c8 hsp
        refine lv_aload_n hx hb dJ7_fill_53178_10 rfl (lv_at hl 0 rfl) ?_
        refine lv_iload_n hx hb dJ7_fill_53178_11 rfl (lv_at hl 2 rfl) ?_
        refine lv_iload_n hx hb dJ7_fill_53178_12 rfl (lv_at hl 1 rfl) ?_
        obtain ⟨g9, hsp⟩ := grd_of hsp
        obtain ⟨f10, ef10⟩ : ∃ u : Nat → Int32, u = (upd z5_1 z5_0.toNatClampNeg p2) := ⟨_, rfl⟩
        have hsp := lt_of hsp ef10
        refine k_iast (bs1 := [[(a0, .inl (cA, v0.1, .inl f10))]]) hx hb hz hw 0 rfl g9 dJ7_fill_53178_13 (by rw [ef10]; rfl) (fun H locs hw => ?_)
        refine lv_iinc (v := (z5_0 + 1)) (lv' := [(2, .int (z5_0 + 1)), (0, .ref a0), (1, .int p2), (3, .int (nI v0.1))]) hx hb dJ7_fill_53178_14 hl (k := 2) rfl rfl (by decide) rfl (fun ls hl => ?_)
        refine lv_goto (tgt := 5) hx hb dJ7_fill_53178_17 (by decide) ?_
        exact ih5 (z5_0 + 1) f10 _ hsp _ _ _ hw (lv_sub hl [1, 2, 0, 3] rfl) kx5_20
  obtain ⟨o7, hso7, hsp⟩ := bnd_of hsp
  refine L5 N (0 : Int32) v0.2 _ hso7 _ _ _ hw (lv_sub hl [2, 3, 1, 0] rfl) (fun y20 hy20 H locs ls hw hl => ?_)
  cases hy20
  have hsp := Option.some.inj hsp
  subst hsp
  have hw : ww A s.heap D [wAr cA a0 (v0.1, o7.2)] H locs := hw
  subst hQ
  exact k_vret hx hb hr hlk hw dJ7_fill_53178_20
noncomputable def sX9_fill (N : Nat) (v0 : V9) (p1 : Int32) : Option (V9) := ((sJ7_fill_53178 N v0.2.2 p1).bind (fun o1 => (some (v0.1, v0.2.1, (v0.2.2.1, o1)))))
abbrev rX9_fill : Room := { frames := 1, cells := 0, slots := 0, locals := 23 }
set_option maxHeartbeats 4000000 in
set_option maxRecDepth 100000 in
theorem mX9_fill (l : Launch) (D : va_G) (cA cR : ClassId) (N : Nat) (a0 : A9) (v0 : V9) (p1 : Int32) (o : V9) (hsp : sX9_fill N v0 p1 = some o) : MI l yX9_fill wsX9_fill rX9_fill D cA cR [.ref a0.1, .int p1] [w9 cA a0 v0] none [w9 cA a0 o] 0 0 := by
  have hsp : ((sJ7_fill_53178 N v0.2.2 p1).bind (fun o1 => (some (v0.1, v0.2.1, (v0.2.2.1, o1))))) = some o := hsp
  refine MI.ofW (cc := cX9_fill) (maxL := 2) (ret := none) (by decide) rfl (Nat.le_of_ble_eq_true rfl) ?_
  intro p e s m args below meth c A ls Q H locs hx hb hr hlk hml hown hnm hts hz hA hQ hw hl
  have hl : lv_has ls 2 [(0, .ref a0.1), (1, .int p1)] := hl
  have hw : ww A s.heap D [[(a0.1, .inr (9, [.int v0.1, .int v0.2.1, .ref a0.2]))], [(a0.2, .inl (cA, v0.2.2.1, .inl v0.2.2.2))]] H locs := hw
  refine lv_aload_n hx hb dX9_fill_0 rfl (lv_at hl 0 rfl) ?_
  refine k_get (ci := 9) (v := .ref a0.2) (C := RX9) (T := TX9) (N := 3) hx hb hts hown hz hw (by decide +kernel) 0 rfl rfl 2 (by decide) (hts (.fieldLink RX9 24 "OccupancyMonitor$Table" "cells" "[I") (by decide +kernel)) (fun _ h9 => h9) rfl dX9_fill_1 ?_
  refine lv_iload_n hx hb dX9_fill_4 rfl (lv_at hl 1 rfl) ?_
  obtain ⟨o1, hso1, hsp⟩ := bnd_of hsp
  refine k_callS (nA := 2) (As := [.ref a0.2, .int p1]) (cs := [wAr cA a0.2 v0.2.2]) (rs := [[(a0.1, .inr (9, [.int v0.1, .int v0.2.1, .ref a0.2]))]]) (cs1 := [wAr cA a0.2 (v0.2.2.1, o1)]) (bs1 := [[(a0.1, .inr (9, [.int v0.1, .int v0.2.1, .ref a0.2]))], [(a0.2, .inl (cA, v0.2.2.1, .inl o1))]]) (rest := []) (st1 := []) ⟨hx, hb, hml, hown, hts⟩ hz hw hA (mJ7_fill_53178 l D cA cR N a0.2 v0.2.2 p1 o1 hso1) gX9_fill_J7_fill_53178 rfl rfl rfl (by decide +kernel) rfl ⟨Nat.le_of_ble_eq_true rfl, Nat.le_of_ble_eq_true rfl⟩ hl.1 rfl (Nat.le_of_ble_eq_true rfl) dX9_fill_5 ⟨Nat.le_of_ble_eq_true rfl, Nat.le_of_ble_eq_true rfl⟩ [1] [0] [0, 1] rfl rfl rfl rfl rfl rfl (fun H locs hw => ?_)
  have hsp := Option.some.inj hsp
  subst hsp
  have hw : ww A s.heap D [w9 cA a0 (v0.1, v0.2.1, (v0.2.2.1, o1))] H locs := hw
  subst hQ
  exact k_vret hx hb hr hlk hw dX9_fill_8
noncomputable def sX9_set (v0 : V9) (p1 : Int32) (p2 : Int32) (p3 : Int32) : Option (V9) := (if p1 < 0 then (some v0) else (if v0.1 ≤ p1 then (some v0) else (if p2 < 0 then (some v0) else (if p2 < v0.2.1 then (grd (vp_in ((p1 * v0.2.1) + p2) v0.2.2.1) (lt_ (upd v0.2.2.2 ((p1 * v0.2.1) + p2).toNatClampNeg p3) (fun f6 => (some (v0.1, v0.2.1, (v0.2.2.1, f6)))))) else (some v0)))))
abbrev rX9_set : Room := { frames := 0, cells := 0, slots := 0, locals := 0 }
set_option maxHeartbeats 4000000 in
set_option maxRecDepth 100000 in
theorem mX9_set (l : Launch) (D : va_G) (cA cR : ClassId) (a0 : A9) (v0 : V9) (p1 : Int32) (p2 : Int32) (p3 : Int32) (o : V9) (hsp : sX9_set v0 p1 p2 p3 = some o) : MI l yX9_set wsX9_set rX9_set D cA cR [.ref a0.1, .int p1, .int p2, .int p3] [w9 cA a0 v0] none [w9 cA a0 o] 0 0 := by
  have hsp : (if p1 < 0 then (some v0) else (if v0.1 ≤ p1 then (some v0) else (if p2 < 0 then (some v0) else (if p2 < v0.2.1 then (grd (vp_in ((p1 * v0.2.1) + p2) v0.2.2.1) (lt_ (upd v0.2.2.2 ((p1 * v0.2.1) + p2).toNatClampNeg p3) (fun f6 => (some (v0.1, v0.2.1, (v0.2.2.1, f6)))))) else (some v0))))) = some o := hsp
  refine MI.ofW (cc := cX9_set) (maxL := 4) (ret := none) (by decide) rfl (Nat.le_of_ble_eq_true rfl) ?_
  intro p e s m args below meth c A ls Q H locs hx hb hr hlk hml hown hnm hts hz hA hQ hw hl
  have hl : lv_has ls 4 [(0, .ref a0.1), (1, .int p1), (2, .int p2), (3, .int p3)] := hl
  have hw : ww A s.heap D [[(a0.1, .inr (9, [.int v0.1, .int v0.2.1, .ref a0.2]))], [(a0.2, .inl (cA, v0.2.2.1, .inl v0.2.2.2))]] H locs := hw
  refine lv_iload_n hx hb dX9_set_0 rfl (lv_at hl 1 rfl) ?_
  refine lv_if_lt (tgt := 24) hx hb dX9_set_1 (by decide) (fun c1 => ?_) (fun c1 => ?_)
  · have hsp := ift c1 hsp
    have hsp := Option.some.inj hsp
    subst hsp
    have hw : ww A s.heap D [w9 cA a0 v0] H locs := hw
    subst hQ
    exact k_vret hx hb hr hlk hw dX9_set_24
  · have hsp := iff_ c1 hsp
    refine lv_iload_n hx hb dX9_set_4 rfl (lv_at hl 1 rfl) ?_
    refine lv_aload_n hx hb dX9_set_5 rfl (lv_at hl 0 rfl) ?_
    refine k_get (ci := 9) (v := .int v0.1) (C := RX9) (T := TX9) (N := 3) hx hb hts hown hz hw (by decide +kernel) 0 rfl rfl 0 (by decide) (hts (.fieldLink RX9 9 "OccupancyMonitor$Table" "rows" "I") (by decide +kernel)) (fun _ h9 => h9) rfl dX9_set_6 ?_
    refine lv_icmp_ge (tgt := 24) hx hb dX9_set_9 (by decide) (fun c2 => ?_) (fun c2 => ?_)
    · have hsp := ift c2 hsp
      have hsp := Option.some.inj hsp
      subst hsp
      have hw : ww A s.heap D [w9 cA a0 v0] H locs := hw
      subst hQ
      exact k_vret hx hb hr hlk hw dX9_set_24
    · have hsp := iff_ c2 hsp
      refine lv_iload_n hx hb dX9_set_12 rfl (lv_at hl 2 rfl) ?_
      refine lv_if_lt (tgt := 24) hx hb dX9_set_13 (by decide) (fun c3 => ?_) (fun c3 => ?_)
      · have hsp := ift c3 hsp
        have hsp := Option.some.inj hsp
        subst hsp
        have hw : ww A s.heap D [w9 cA a0 v0] H locs := hw
        subst hQ
        exact k_vret hx hb hr hlk hw dX9_set_24
      · have hsp := iff_ c3 hsp
        refine lv_iload_n hx hb dX9_set_16 rfl (lv_at hl 2 rfl) ?_
        refine lv_aload_n hx hb dX9_set_17 rfl (lv_at hl 0 rfl) ?_
        refine k_get (ci := 9) (v := .int v0.2.1) (C := RX9) (T := TX9) (N := 3) hx hb hts hown hz hw (by decide +kernel) 0 rfl rfl 1 (by decide) (hts (.fieldLink RX9 15 "OccupancyMonitor$Table" "columns" "I") (by decide +kernel)) (fun _ h9 => h9) rfl dX9_set_18 ?_
        refine lv_icmp_lt (tgt := 25) hx hb dX9_set_21 (by decide) (fun c4 => ?_) (fun c4 => ?_)
        · have hsp := ift c4 hsp
          refine lv_aload_n hx hb dX9_set_25 rfl (lv_at hl 0 rfl) ?_
          refine k_get (ci := 9) (v := .ref a0.2) (C := RX9) (T := TX9) (N := 3) hx hb hts hown hz hw (by decide +kernel) 0 rfl rfl 2 (by decide) (hts (.fieldLink RX9 24 "OccupancyMonitor$Table" "cells" "[I") (by decide +kernel)) (fun _ h9 => h9) rfl dX9_set_26 ?_
          refine lv_iload_n hx hb dX9_set_29 rfl (lv_at hl 1 rfl) ?_
          refine lv_aload_n hx hb dX9_set_30 rfl (lv_at hl 0 rfl) ?_
          refine k_get (ci := 9) (v := .int v0.2.1) (C := RX9) (T := TX9) (N := 3) hx hb hts hown hz hw (by decide +kernel) 0 rfl rfl 1 (by decide) (hts (.fieldLink RX9 15 "OccupancyMonitor$Table" "columns" "I") (by decide +kernel)) (fun _ h9 => h9) rfl dX9_set_31 ?_
          refine lv_imul hx hb dX9_set_34 ?_
          refine lv_iload_n hx hb dX9_set_35 rfl (lv_at hl 2 rfl) ?_
          refine lv_iadd hx hb dX9_set_36 ?_
          refine lv_iload_n hx hb dX9_set_37 rfl (lv_at hl 3 rfl) ?_
          obtain ⟨g5, hsp⟩ := grd_of hsp
          obtain ⟨f6, ef6⟩ : ∃ u : Nat → Int32, u = (upd v0.2.2.2 ((p1 * v0.2.1) + p2).toNatClampNeg p3) := ⟨_, rfl⟩
          have hsp := lt_of hsp ef6
          refine k_iast (bs1 := [[(a0.1, .inr (9, [.int v0.1, .int v0.2.1, .ref a0.2]))], [(a0.2, .inl (cA, v0.2.2.1, .inl f6))]]) hx hb hz hw 1 rfl g5 dX9_set_38 (by rw [ef6]; rfl) (fun H locs hw => ?_)
          have hsp := Option.some.inj hsp
          subst hsp
          have hw : ww A s.heap D [w9 cA a0 (v0.1, v0.2.1, (v0.2.2.1, f6))] H locs := hw
          subst hQ
          exact k_vret hx hb hr hlk hw dX9_set_39
        · have hsp := iff_ c4 hsp
          have hsp := Option.some.inj hsp
          subst hsp
          have hw : ww A s.heap D [w9 cA a0 v0] H locs := hw
          subst hQ
          exact k_vret hx hb hr hlk hw dX9_set_24
noncomputable def sX9_get (v0 : V9) (p1 : Int32) (p2 : Int32) : Option (Int32) := (if p1 < 0 then (some (-1 : Int32)) else (if v0.1 ≤ p1 then (some (-1 : Int32)) else (if p2 < 0 then (some (-1 : Int32)) else (if p2 < v0.2.1 then (grd (vp_in ((p1 * v0.2.1) + p2) v0.2.2.1) (some (v0.2.2.2 ((p1 * v0.2.1) + p2).toNatClampNeg))) else (some (-1 : Int32))))))
abbrev rX9_get : Room := { frames := 0, cells := 0, slots := 0, locals := 0 }
set_option maxHeartbeats 4000000 in
set_option maxRecDepth 100000 in
theorem mX9_get (l : Launch) (D : va_G) (cA cR : ClassId) (a0 : A9) (v0 : V9) (p1 : Int32) (p2 : Int32) (o : Int32) (hsp : sX9_get v0 p1 p2 = some o) : MI l yX9_get wsX9_get rX9_get D cA cR [.ref a0.1, .int p1, .int p2] [w9 cA a0 v0] (some (.int o)) [w9 cA a0 v0] 0 0 := by
  have hsp : (if p1 < 0 then (some (-1 : Int32)) else (if v0.1 ≤ p1 then (some (-1 : Int32)) else (if p2 < 0 then (some (-1 : Int32)) else (if p2 < v0.2.1 then (grd (vp_in ((p1 * v0.2.1) + p2) v0.2.2.1) (some (v0.2.2.2 ((p1 * v0.2.1) + p2).toNatClampNeg))) else (some (-1 : Int32)))))) = some o := hsp
  refine MI.ofW (cc := cX9_get) (maxL := 3) (ret := (some .int)) (by decide) rfl (Nat.le_of_ble_eq_true rfl) ?_
  intro p e s m args below meth c A ls Q H locs hx hb hr hlk hml hown hnm hts hz hA hQ hw hl
  have hl : lv_has ls 3 [(0, .ref a0.1), (1, .int p1), (2, .int p2)] := hl
  have hw : ww A s.heap D [[(a0.1, .inr (9, [.int v0.1, .int v0.2.1, .ref a0.2]))], [(a0.2, .inl (cA, v0.2.2.1, .inl v0.2.2.2))]] H locs := hw
  refine lv_iload_n hx hb dX9_get_0 rfl (lv_at hl 1 rfl) ?_
  refine lv_if_lt (tgt := 24) hx hb dX9_get_1 (by decide) (fun c1 => ?_) (fun c1 => ?_)
  · have hsp := ift c1 hsp
    refine lv_iconst (v := -1) hx hb dX9_get_24 (by decide) ?_
    have hsp := Option.some.inj hsp
    subst hsp
    have hw : ww A s.heap D [w9 cA a0 v0] H locs := hw
    subst hQ
    exact k_iret hx hb hr hlk hw dX9_get_25
  · have hsp := iff_ c1 hsp
    refine lv_iload_n hx hb dX9_get_4 rfl (lv_at hl 1 rfl) ?_
    refine lv_aload_n hx hb dX9_get_5 rfl (lv_at hl 0 rfl) ?_
    refine k_get (ci := 9) (v := .int v0.1) (C := RX9) (T := TX9) (N := 3) hx hb hts hown hz hw (by decide +kernel) 0 rfl rfl 0 (by decide) (hts (.fieldLink RX9 9 "OccupancyMonitor$Table" "rows" "I") (by decide +kernel)) (fun _ h9 => h9) rfl dX9_get_6 ?_
    refine lv_icmp_ge (tgt := 24) hx hb dX9_get_9 (by decide) (fun c2 => ?_) (fun c2 => ?_)
    · have hsp := ift c2 hsp
      refine lv_iconst (v := -1) hx hb dX9_get_24 (by decide) ?_
      have hsp := Option.some.inj hsp
      subst hsp
      have hw : ww A s.heap D [w9 cA a0 v0] H locs := hw
      subst hQ
      exact k_iret hx hb hr hlk hw dX9_get_25
    · have hsp := iff_ c2 hsp
      refine lv_iload_n hx hb dX9_get_12 rfl (lv_at hl 2 rfl) ?_
      refine lv_if_lt (tgt := 24) hx hb dX9_get_13 (by decide) (fun c3 => ?_) (fun c3 => ?_)
      · have hsp := ift c3 hsp
        refine lv_iconst (v := -1) hx hb dX9_get_24 (by decide) ?_
        have hsp := Option.some.inj hsp
        subst hsp
        have hw : ww A s.heap D [w9 cA a0 v0] H locs := hw
        subst hQ
        exact k_iret hx hb hr hlk hw dX9_get_25
      · have hsp := iff_ c3 hsp
        refine lv_iload_n hx hb dX9_get_16 rfl (lv_at hl 2 rfl) ?_
        refine lv_aload_n hx hb dX9_get_17 rfl (lv_at hl 0 rfl) ?_
        refine k_get (ci := 9) (v := .int v0.2.1) (C := RX9) (T := TX9) (N := 3) hx hb hts hown hz hw (by decide +kernel) 0 rfl rfl 1 (by decide) (hts (.fieldLink RX9 15 "OccupancyMonitor$Table" "columns" "I") (by decide +kernel)) (fun _ h9 => h9) rfl dX9_get_18 ?_
        refine lv_icmp_lt (tgt := 26) hx hb dX9_get_21 (by decide) (fun c4 => ?_) (fun c4 => ?_)
        · have hsp := ift c4 hsp
          refine lv_aload_n hx hb dX9_get_26 rfl (lv_at hl 0 rfl) ?_
          refine k_get (ci := 9) (v := .ref a0.2) (C := RX9) (T := TX9) (N := 3) hx hb hts hown hz hw (by decide +kernel) 0 rfl rfl 2 (by decide) (hts (.fieldLink RX9 24 "OccupancyMonitor$Table" "cells" "[I") (by decide +kernel)) (fun _ h9 => h9) rfl dX9_get_27 ?_
          refine lv_iload_n hx hb dX9_get_30 rfl (lv_at hl 1 rfl) ?_
          refine lv_aload_n hx hb dX9_get_31 rfl (lv_at hl 0 rfl) ?_
          refine k_get (ci := 9) (v := .int v0.2.1) (C := RX9) (T := TX9) (N := 3) hx hb hts hown hz hw (by decide +kernel) 0 rfl rfl 1 (by decide) (hts (.fieldLink RX9 15 "OccupancyMonitor$Table" "columns" "I") (by decide +kernel)) (fun _ h9 => h9) rfl dX9_get_32 ?_
          refine lv_imul hx hb dX9_get_35 ?_
          refine lv_iload_n hx hb dX9_get_36 rfl (lv_at hl 2 rfl) ?_
          refine lv_iadd hx hb dX9_get_37 ?_
          obtain ⟨g5, hsp⟩ := grd_of hsp
          refine k_iald hx hb hz hw 1 rfl g5 dX9_get_38 ?_
          have hsp := Option.some.inj hsp
          subst hsp
          have hw : ww A s.heap D [w9 cA a0 v0] H locs := hw
          subst hQ
          exact k_iret hx hb hr hlk hw dX9_get_39
        · have hsp := iff_ c4 hsp
          refine lv_iconst (v := -1) hx hb dX9_get_24 (by decide) ?_
          have hsp := Option.some.inj hsp
          subst hsp
          have hw : ww A s.heap D [w9 cA a0 v0] H locs := hw
          subst hQ
          exact k_iret hx hb hr hlk hw dX9_get_25
noncomputable def sX9_increase (v0 : V9) (p1 : Int32) (p2 : Int32) : Option (V9) := ((sX9_get v0 p1 p2).bind (fun o1 => ((sX9_set v0 p1 p2 (o1 + (1 : Int32))).bind (fun o2 => (some o2)))))
abbrev rX9_increase : Room := { frames := 1, cells := 0, slots := 0, locals := 23 }
set_option maxHeartbeats 4000000 in
set_option maxRecDepth 100000 in
theorem mX9_increase (l : Launch) (D : va_G) (cA cR : ClassId) (a0 : A9) (v0 : V9) (p1 : Int32) (p2 : Int32) (o : V9) (hsp : sX9_increase v0 p1 p2 = some o) : MI l yX9_increase wsX9_increase rX9_increase D cA cR [.ref a0.1, .int p1, .int p2] [w9 cA a0 v0] none [w9 cA a0 o] 0 0 := by
  have hsp : ((sX9_get v0 p1 p2).bind (fun o1 => ((sX9_set v0 p1 p2 (o1 + (1 : Int32))).bind (fun o2 => (some o2))))) = some o := hsp
  refine MI.ofW (cc := cX9_increase) (maxL := 3) (ret := none) (by decide) rfl (Nat.le_of_ble_eq_true rfl) ?_
  intro p e s m args below meth c A ls Q H locs hx hb hr hlk hml hown hnm hts hz hA hQ hw hl
  have hl : lv_has ls 3 [(0, .ref a0.1), (1, .int p1), (2, .int p2)] := hl
  have hw : ww A s.heap D [w9 cA a0 v0] H locs := hw
  refine lv_aload_n hx hb dX9_increase_0 rfl (lv_at hl 0 rfl) ?_
  refine lv_iload_n hx hb dX9_increase_1 rfl (lv_at hl 1 rfl) ?_
  refine lv_iload_n hx hb dX9_increase_2 rfl (lv_at hl 2 rfl) ?_
  refine lv_aload_n hx hb dX9_increase_3 rfl (lv_at hl 0 rfl) ?_
  refine lv_iload_n hx hb dX9_increase_4 rfl (lv_at hl 1 rfl) ?_
  refine lv_iload_n hx hb dX9_increase_5 rfl (lv_at hl 2 rfl) ?_
  obtain ⟨o1, hso1, hsp⟩ := bnd_of hsp
  refine k_callV (ci := 9) (C := RX9) (T := TX9) (N := 3) (nA := 2) (As := [.int p1, .int p2]) (cs := [w9 cA a0 v0]) (rs := []) (cs1 := [w9 cA a0 v0]) (bs1 := [w9 cA a0 v0]) (rest := [.int p2, .int p1, .ref a0.1]) (st1 := [.int o1, .int p2, .int p1, .ref a0.1]) ⟨hx, hb, hml, hown, hts⟩ hz hw hA (mX9_get l D cA cR a0 v0 p1 p2 o1 hso1) gX9_increase_X9_get rfl rfl rfl (by decide +kernel) rfl ⟨Nat.le_of_ble_eq_true rfl, Nat.le_of_ble_eq_true rfl⟩ rfl rfl hl.1 rfl (Nat.le_of_ble_eq_true rfl) dX9_increase_6 ⟨Nat.le_of_ble_eq_true rfl, Nat.le_of_ble_eq_true rfl⟩ [0] [] [0] rfl rfl rfl rfl rfl rfl (fun H locs hw => ?_)
  refine lv_iconst (v := 1) hx hb dX9_increase_9 (by decide) ?_
  refine lv_iadd hx hb dX9_increase_10 ?_
  obtain ⟨o2, hso2, hsp⟩ := bnd_of hsp
  refine k_callV (ci := 9) (C := RX9) (T := TX9) (N := 3) (nA := 3) (As := [.int p1, .int p2, .int (o1 + (1 : Int32))]) (cs := [w9 cA a0 v0]) (rs := []) (cs1 := [w9 cA a0 o2]) (bs1 := [w9 cA a0 o2]) (rest := []) (st1 := []) ⟨hx, hb, hml, hown, hts⟩ hz hw hA (mX9_set l D cA cR a0 v0 p1 p2 (o1 + (1 : Int32)) o2 hso2) gX9_increase_X9_set rfl rfl rfl (by decide +kernel) rfl ⟨Nat.le_of_ble_eq_true rfl, Nat.le_of_ble_eq_true rfl⟩ rfl rfl hl.1 rfl (Nat.le_of_ble_eq_true rfl) dX9_increase_11 ⟨Nat.le_of_ble_eq_true rfl, Nat.le_of_ble_eq_true rfl⟩ [0] [] [0] rfl rfl rfl rfl rfl rfl (fun H locs hw => ?_)
  have hsp := Option.some.inj hsp
  subst hsp
  have hw : ww A s.heap D [w9 cA a0 o2] H locs := hw
  subst hQ
  exact k_vret hx hb hr hlk hw dX9_increase_14
noncomputable def sX10_mix (p1 : Int64) (p2 : Int32) : Option (Int64) := (some (((31 : Int64) * p1) + p2.toInt64))
abbrev rX10_mix : Room := { frames := 0, cells := 0, slots := 0, locals := 0 }
set_option maxHeartbeats 4000000 in
set_option maxRecDepth 100000 in
theorem mX10_mix (l : Launch) (D : va_G) (cA cR : ClassId) (p1 : Int64) (p2 : Int32) (o : Int64) (hsp : sX10_mix p1 p2 = some o) : MI l yX10_mix wsX10_mix rX10_mix D cA cR [.long p1, .int p2] [] (some (.long o)) [] 0 0 := by
  have hsp : (some (((31 : Int64) * p1) + p2.toInt64)) = some o := hsp
  refine MI.ofW (cc := cX10_mix) (maxL := 3) (ret := (some .long)) (by decide) rfl (Nat.le_of_ble_eq_true rfl) ?_
  intro p e s m args below meth c A ls Q H locs hx hb hr hlk hml hown hnm hts hz hA hQ hw hl
  have hl : lv_has ls 3 [(0, .long p1), (2, .int p2)] := hl
  have hw : ww A s.heap D [] H locs := hw
  refine lv_ldc2 hx hb hown (hts (.constantLong RX10 254 31) (by decide +kernel)) dX10_mix_0 ?_
  refine lv_lload_n hx hb dX10_mix_3 rfl (lv_at hl 0 rfl) ?_
  refine lv_lmul hx hb dX10_mix_4 ?_
  refine lv_iload_n hx hb dX10_mix_5 rfl (lv_at hl 1 rfl) ?_
  refine lv_i2l hx hb dX10_mix_6 rfl ?_
  refine lv_ladd hx hb dX10_mix_7 ?_
  have hsp := Option.some.inj hsp
  subst hsp
  have hw : ww A s.heap D [] H locs := hw
  subst hQ
  exact k_lret hx hb hr hlk hw dX10_mix_8
noncomputable def qX9_mixRow_6 (v0 : V9) (p2 : Int32) : Nat → Int64 → Int32 → Option (Int64 × Int32)
  | 0, _, _ => none
  | n6 + 1, z6_0, z6_1 => (if v0.2.1 ≤ z6_1 then (some (z6_0, z6_1)) else ((sX9_get v0 p2 z6_1).bind (fun o9 => ((sX10_mix z6_0 o9).bind (fun o10 => (qX9_mixRow_6 v0 p2 n6 o10 (z6_1 + 1)))))))
noncomputable def sX9_mixRow (N : Nat) (v0 : V9) (p1 : Int64) (p2 : Int32) : Option (Int64) := ((qX9_mixRow_6 v0 p2 N p1 (0 : Int32)).bind (fun o7 => (some o7.1)))
abbrev rX9_mixRow : Room := { frames := 1, cells := 0, slots := 0, locals := 22 }
set_option maxHeartbeats 4000000 in
set_option maxRecDepth 100000 in
theorem mX9_mixRow (l : Launch) (D : va_G) (cA cR : ClassId) (N : Nat) (a0 : A9) (v0 : V9) (p1 : Int64) (p2 : Int32) (o : Int64) (hsp : sX9_mixRow N v0 p1 p2 = some o) : MI l yX9_mixRow wsX9_mixRow rX9_mixRow D cA cR [.ref a0.1, .long p1, .int p2] [w9 cA a0 v0] (some (.long o)) [w9 cA a0 v0] 0 0 := by
  have hsp : ((qX9_mixRow_6 v0 p2 N p1 (0 : Int32)).bind (fun o7 => (some o7.1))) = some o := hsp
  refine MI.ofW (cc := cX9_mixRow) (maxL := 7) (ret := (some .long)) (by decide) rfl (Nat.le_of_ble_eq_true rfl) ?_
  intro p e s m args below meth c A ls Q H locs hx hb hr hlk hml hown hnm hts hz hA hQ hw hl
  have hl : lv_has ls 7 [(0, .ref a0.1), (1, .long p1), (3, .int p2)] := hl
  have hw : ww A s.heap D [[(a0.1, .inr (9, [.int v0.1, .int v0.2.1, .ref a0.2]))], [(a0.2, .inl (cA, v0.2.2.1, .inl v0.2.2.2))]] H locs := hw
  refine lv_lload_n hx hb dX9_mixRow_0 rfl (lv_at hl 1 rfl) ?_
  refine lv_lstore (lv' := [(4, .long p1), (0, .ref a0.1), (1, .long p1), (3, .int p2)]) hx hb dX9_mixRow_1 hl (by decide) rfl (fun ls hl => ?_)
  refine lv_iconst (v := 0) hx hb dX9_mixRow_3 (by decide) ?_
  refine lv_istore (lv' := [(6, .int (0 : Int32)), (4, .long p1), (0, .ref a0.1), (1, .long p1), (3, .int p2)]) hx hb dX9_mixRow_4 hl (by decide) rfl (fun ls hl => ?_)
  have L6 : ∀ (n6 : Nat) (z6_0 : Int64) (z6_1 : Int32) (o7 : Int64 × Int32), qX9_mixRow_6 v0 p2 n6 z6_0 z6_1 = some o7 → ∀ (H : Heap) (locs : List Loc) (ls : Array Slot), ww A s.heap D [[(a0.1, .inr (9, [.int v0.1, .int v0.2.1, .ref a0.2]))], [(a0.2, .inl (cA, v0.2.2.1, .inl v0.2.2.2))]] H locs → lv_has ls 7 [(0, .ref a0.1), (1, .long p1), (3, .int p2), (4, .long z6_0), (6, .int z6_1)] → (∀ (y35 : Int64 × Int32), o7 = y35 → ∀ (H : Heap) (locs : List Loc) (ls : Array Slot), ww A s.heap D [[(a0.1, .inr (9, [.int v0.1, .int v0.2.1, .ref a0.2]))], [(a0.2, .inl (cA, v0.2.2.1, .inl v0.2.2.2))]] H locs → lv_has ls 7 [(0, .ref a0.1), (1, .long p1), (3, .int p2), (4, .long y35.1), (6, .int y35.2)] → W p l e rX9_mixRow s m args below meth c H locs 0 0 Q (F0 m 35 ls [])) → W p l e rX9_mixRow s m args below meth c H locs 0 0 Q (F0 m 6 ls []) := by
    intro n6
    induction n6 with
    | zero => intro z6_0 z6_1 o7 hsp; cases hsp
    | succ n6 ih6 =>
      intro z6_0 z6_1 o7 hsp H locs ls hw hl kx6_35
      have hsp : (if v0.2.1 ≤ z6_1 then (some (z6_0, z6_1)) else ((sX9_get v0 p2 z6_1).bind (fun o9 => ((sX10_mix z6_0 o9).bind (fun o10 => (qX9_mixRow_6 v0 p2 n6 o10 (z6_1 + 1))))))) = some o7 := hsp
      refine lv_iload hx hb dX9_mixRow_6 (lv_at hl 4 rfl) ?_
      refine lv_aload_n hx hb dX9_mixRow_8 rfl (lv_at hl 0 rfl) ?_
      refine k_get (ci := 9) (v := .int v0.2.1) (C := RX9) (T := TX9) (N := 3) hx hb hts hown hz hw (by decide +kernel) 0 rfl rfl 1 (by decide) (hts (.fieldLink RX9 15 "OccupancyMonitor$Table" "columns" "I") (by decide +kernel)) (fun _ h9 => h9) rfl dX9_mixRow_9 ?_
      refine lv_icmp_ge (tgt := 35) hx hb dX9_mixRow_12 (by decide) (fun c8 => ?_) (fun c8 => ?_)
      · have hsp := ift c8 hsp
        have hsp := Option.some.inj hsp
        subst hsp
        exact kx6_35 _ rfl _ _ _ hw (lv_sub hl [0, 1, 2, 3, 4] rfl)
      · have hsp := iff_ c8 hsp
        refine lv_lload hx hb dX9_mixRow_15 (lv_at hl 3 rfl) ?_
        refine lv_aload_n hx hb dX9_mixRow_17 rfl (lv_at hl 0 rfl) ?_
        refine lv_iload_n hx hb dX9_mixRow_18 rfl (lv_at hl 2 rfl) ?_
        refine lv_iload hx hb dX9_mixRow_19 (lv_at hl 4 rfl) ?_
        have hw : ww A s.heap D [w9 cA a0 v0] H locs := hw
        obtain ⟨o9, hso9, hsp⟩ := bnd_of hsp
        refine k_callV (ci := 9) (C := RX9) (T := TX9) (N := 3) (nA := 2) (As := [.int p2, .int z6_1]) (cs := [w9 cA a0 v0]) (rs := []) (cs1 := [w9 cA a0 v0]) (bs1 := [w9 cA a0 v0]) (rest := [.long z6_0]) (st1 := [.int o9, .long z6_0]) ⟨hx, hb, hml, hown, hts⟩ hz hw hA (mX9_get l D cA cR a0 v0 p2 z6_1 o9 hso9) gX9_mixRow_X9_get rfl rfl rfl (by decide +kernel) rfl ⟨Nat.le_of_ble_eq_true rfl, Nat.le_of_ble_eq_true rfl⟩ rfl rfl hl.1 rfl (Nat.le_of_ble_eq_true rfl) dX9_mixRow_21 ⟨Nat.le_of_ble_eq_true rfl, Nat.le_of_ble_eq_true rfl⟩ [0] [] [0] rfl rfl rfl rfl rfl rfl (fun H locs hw => ?_)
        have hw : ww A s.heap D [[(a0.1, .inr (9, [.int v0.1, .int v0.2.1, .ref a0.2]))], [(a0.2, .inl (cA, v0.2.2.1, .inl v0.2.2.2))]] H locs := hw
        obtain ⟨o10, hso10, hsp⟩ := bnd_of hsp
        refine k_callSN (nA := 2) (As := [.long z6_0, .int o9]) (host := "OccupancyMonitor") (cs := []) (rs := [[(a0.1, .inr (9, [.int v0.1, .int v0.2.1, .ref a0.2]))], [(a0.2, .inl (cA, v0.2.2.1, .inl v0.2.2.2))]]) (cs1 := []) (bs1 := [[(a0.1, .inr (9, [.int v0.1, .int v0.2.1, .ref a0.2]))], [(a0.2, .inl (cA, v0.2.2.1, .inl v0.2.2.2))]]) (rest := []) (st1 := [.long o10]) ⟨hx, hb, hml, hown, hts⟩ hz hw hA (mX10_mix l D cA cR z6_0 o9 o10 hso10) gX9_mixRow_X10_mix_n58 rfl rfl rfl (by decide +kernel) (by decide +kernel) (by decide +kernel) (by decide +kernel) rfl ⟨Nat.le_of_ble_eq_true rfl, Nat.le_of_ble_eq_true rfl⟩ hl.1 rfl (Nat.le_of_ble_eq_true rfl) dX9_mixRow_24 ⟨Nat.le_of_ble_eq_true rfl, Nat.le_of_ble_eq_true rfl⟩ [] [0, 1] [0, 1] rfl rfl rfl rfl rfl rfl (fun H locs hw => ?_)
        refine lv_lstore (lv' := [(4, .long o10), (0, .ref a0.1), (1, .long p1), (3, .int p2), (6, .int z6_1)]) hx hb dX9_mixRow_27 hl (by decide) rfl (fun ls hl => ?_)
        refine lv_iinc (v := (z6_1 + 1)) (lv' := [(6, .int (z6_1 + 1)), (4, .long o10), (0, .ref a0.1), (1, .long p1), (3, .int p2)]) hx hb dX9_mixRow_29 hl (k := 4) rfl rfl (by decide) rfl (fun ls hl => ?_)
        refine lv_goto (tgt := 6) hx hb dX9_mixRow_32 (by decide) ?_
        exact ih6 o10 (z6_1 + 1) _ hsp _ _ _ hw (lv_sub hl [2, 3, 4, 1, 0] rfl) kx6_35
  obtain ⟨o7, hso7, hsp⟩ := bnd_of hsp
  refine L6 N p1 (0 : Int32) _ hso7 _ _ _ hw (lv_sub hl [2, 3, 4, 1, 0] rfl) (fun y35 hy35 H locs ls hw hl => ?_)
  cases hy35
  refine lv_lload hx hb dX9_mixRow_35 (lv_at hl 3 rfl) ?_
  have hsp := Option.some.inj hsp
  subst hsp
  have hw : ww A s.heap D [w9 cA a0 v0] H locs := hw
  subst hQ
  exact k_lret hx hb hr hlk hw dX9_mixRow_37
noncomputable def sX9_copyFrom (v0 : V9) (v1 : V9) : Option (V9) := (lt_ (if (nI v1.2.2.1) < (nI v0.2.2.1) then (nI v1.2.2.1) else (nI v0.2.2.1)) (fun x1 => (grd (acok (0 : Int32) (0 : Int32) x1 v1.2.2.1 v0.2.2.1) (lt_ (va_cpy v1.2.2.2 v0.2.2.2 (0 : Int32).toNatClampNeg (0 : Int32).toNatClampNeg x1.toNatClampNeg) (fun f2 => (some (v0.1, v0.2.1, (v0.2.2.1, f2))))))))
abbrev rX9_copyFrom : Room := { frames := 1, cells := 0, slots := 0, locals := 26 }
set_option maxHeartbeats 4000000 in
set_option maxRecDepth 100000 in
theorem mX9_copyFrom (l : Launch) (D : va_G) (cA cR : ClassId) (a0 : A9) (v0 : V9) (a1 : A9) (v1 : V9) (o : V9) (hsp : sX9_copyFrom v0 v1 = some o) : MI l yX9_copyFrom wsX9_copyFrom rX9_copyFrom D cA cR [.ref a0.1, .ref a1.1] [w9 cA a0 v0, w9 cA a1 v1] none [w9 cA a0 o, w9 cA a1 v1] 0 0 := by
  have hsp : (lt_ (if (nI v1.2.2.1) < (nI v0.2.2.1) then (nI v1.2.2.1) else (nI v0.2.2.1)) (fun x1 => (grd (acok (0 : Int32) (0 : Int32) x1 v1.2.2.1 v0.2.2.1) (lt_ (va_cpy v1.2.2.2 v0.2.2.2 (0 : Int32).toNatClampNeg (0 : Int32).toNatClampNeg x1.toNatClampNeg) (fun f2 => (some (v0.1, v0.2.1, (v0.2.2.1, f2)))))))) = some o := hsp
  refine MI.ofW (cc := cX9_copyFrom) (maxL := 2) (ret := none) (by decide) rfl (Nat.le_of_ble_eq_true rfl) ?_
  intro p e s m args below meth c A ls Q H locs hx hb hr hlk hml hown hnm hts hz hA hQ hw hl
  have hl : lv_has ls 2 [(0, .ref a0.1), (1, .ref a1.1)] := hl
  have hw : ww A s.heap D [[(a0.1, .inr (9, [.int v0.1, .int v0.2.1, .ref a0.2]))], [(a0.2, .inl (cA, v0.2.2.1, .inl v0.2.2.2))], [(a1.1, .inr (9, [.int v1.1, .int v1.2.1, .ref a1.2]))], [(a1.2, .inl (cA, v1.2.2.1, .inl v1.2.2.2))]] H locs := hw
  refine lv_aload_n hx hb dX9_copyFrom_0 rfl (lv_at hl 1 rfl) ?_
  refine k_get (ci := 9) (v := .ref a1.2) (C := RX9) (T := TX9) (N := 3) hx hb hts hown hz hw (by decide +kernel) 2 rfl rfl 2 (by decide) (hts (.fieldLink RX9 24 "OccupancyMonitor$Table" "cells" "[I") (by decide +kernel)) (fun _ h9 => h9) rfl dX9_copyFrom_1 ?_
  refine lv_iconst (v := 0) hx hb dX9_copyFrom_4 (by decide) ?_
  refine lv_aload_n hx hb dX9_copyFrom_5 rfl (lv_at hl 0 rfl) ?_
  refine k_get (ci := 9) (v := .ref a0.2) (C := RX9) (T := TX9) (N := 3) hx hb hts hown hz hw (by decide +kernel) 0 rfl rfl 2 (by decide) (hts (.fieldLink RX9 24 "OccupancyMonitor$Table" "cells" "[I") (by decide +kernel)) (fun _ h9 => h9) rfl dX9_copyFrom_6 ?_
  refine lv_iconst (v := 0) hx hb dX9_copyFrom_9 (by decide) ?_
  refine lv_aload_n hx hb dX9_copyFrom_10 rfl (lv_at hl 0 rfl) ?_
  refine k_get (ci := 9) (v := .ref a0.2) (C := RX9) (T := TX9) (N := 3) hx hb hts hown hz hw (by decide +kernel) 0 rfl rfl 2 (by decide) (hts (.fieldLink RX9 24 "OccupancyMonitor$Table" "cells" "[I") (by decide +kernel)) (fun _ h9 => h9) rfl dX9_copyFrom_11 ?_
  refine k_alen hx hb hz hw 1 rfl dX9_copyFrom_14 ?_
  refine lv_aload_n hx hb dX9_copyFrom_15 rfl (lv_at hl 1 rfl) ?_
  refine k_get (ci := 9) (v := .ref a1.2) (C := RX9) (T := TX9) (N := 3) hx hb hts hown hz hw (by decide +kernel) 2 rfl rfl 2 (by decide) (hts (.fieldLink RX9 24 "OccupancyMonitor$Table" "cells" "[I") (by decide +kernel)) (fun _ h9 => h9) rfl dX9_copyFrom_16 ?_
  refine k_alen hx hb hz hw 3 rfl dX9_copyFrom_19 ?_
  refine va_mmin hx hb (by rw [hml]; exact hl.1.symm) hown (hts (.methodLink RX9 51 Lib.Math.min.name) (by decide +kernel)) (hts (.static Lib.Math.min.name) (by decide +kernel)) (hts (.initialized "java/lang/Math") (by decide +kernel)) (hts (.code Lib.Math.min.name Lib.Math.min.code 2 (some .int)) (by decide +kernel)) (Nat.le_of_ble_eq_true rfl) (Nat.le_of_ble_eq_true rfl) (Nat.le_of_ble_eq_true rfl) (Nat.le_of_ble_eq_true rfl) dX9_copyFrom_20 ?_
  refine lv_topi (fun x1 ex1 => ?_)
  have hsp := lt_of hsp ex1
  obtain ⟨g3, hsp⟩ := grd_of hsp
  obtain ⟨f2, ef2⟩ : ∃ u : Nat → Int32, u = (va_cpy v1.2.2.2 v0.2.2.2 (0 : Int32).toNatClampNeg (0 : Int32).toNatClampNeg x1.toNatClampNeg) := ⟨_, rfl⟩
  have hsp := lt_of hsp ef2
  refine k_acopy (bs1 := [[(a0.1, .inr (9, [.int v0.1, .int v0.2.1, .ref a0.2]))], [(a0.2, .inl (cA, v0.2.2.1, .inl f2))], [(a1.1, .inr (9, [.int v1.1, .int v1.2.1, .ref a1.2]))], [(a1.2, .inl (cA, v1.2.2.1, .inl v1.2.2.2))]]) hx hb (by rw [hml]; exact hl.1.symm) hown (hts (.methodLink RX9 45 arraycopyName) (by decide +kernel)) (hts (.native arraycopyName) (by decide +kernel)) (hts (.static arraycopyName) (by decide +kernel)) (hts (.initialized "java/lang/System") (by decide +kernel)) hz hw 3 1 rfl rfl g3 (Nat.le_of_ble_eq_true rfl) (Nat.le_of_ble_eq_true rfl) dX9_copyFrom_23 (by rw [ef2]; rfl) (fun H locs hw => ?_)
  have hsp := Option.some.inj hsp
  subst hsp
  have hw : ww A s.heap D [w9 cA a0 (v0.1, v0.2.1, (v0.2.2.1, f2)), w9 cA a1 v1] H locs := hw
  subst hQ
  exact k_vret hx hb hr hlk hw dX9_copyFrom_26
noncomputable def sX9_removeRow (v0 : V9) (p1 : Int32) : Option (V9) := ((sX10_within p1 v0.1).bind (fun o1 => (if o1 = 0 then (some v0) else (grd (acok ((p1 * v0.2.1) + v0.2.1) (p1 * v0.2.1) (((nI v0.2.2.1) - (p1 * v0.2.1)) - v0.2.1) v0.2.2.1 v0.2.2.1) (lt_ (va_cpy v0.2.2.2 v0.2.2.2 ((p1 * v0.2.1) + v0.2.1).toNatClampNeg (p1 * v0.2.1).toNatClampNeg (((nI v0.2.2.1) - (p1 * v0.2.1)) - v0.2.1).toNatClampNeg) (fun f3 => (some (v0.1, v0.2.1, (v0.2.2.1, f3)))))))))
abbrev rX9_removeRow : Room := { frames := 1, cells := 0, slots := 0, locals := 26 }
set_option maxHeartbeats 4000000 in
set_option maxRecDepth 100000 in
theorem mX9_removeRow (l : Launch) (D : va_G) (cA cR : ClassId) (a0 : A9) (v0 : V9) (p1 : Int32) (o : V9) (hsp : sX9_removeRow v0 p1 = some o) : MI l yX9_removeRow wsX9_removeRow rX9_removeRow D cA cR [.ref a0.1, .int p1] [w9 cA a0 v0] none [w9 cA a0 o] 0 0 := by
  have hsp : ((sX10_within p1 v0.1).bind (fun o1 => (if o1 = 0 then (some v0) else (grd (acok ((p1 * v0.2.1) + v0.2.1) (p1 * v0.2.1) (((nI v0.2.2.1) - (p1 * v0.2.1)) - v0.2.1) v0.2.2.1 v0.2.2.1) (lt_ (va_cpy v0.2.2.2 v0.2.2.2 ((p1 * v0.2.1) + v0.2.1).toNatClampNeg (p1 * v0.2.1).toNatClampNeg (((nI v0.2.2.1) - (p1 * v0.2.1)) - v0.2.1).toNatClampNeg) (fun f3 => (some (v0.1, v0.2.1, (v0.2.2.1, f3))))))))) = some o := hsp
  refine MI.ofW (cc := cX9_removeRow) (maxL := 3) (ret := none) (by decide) rfl (Nat.le_of_ble_eq_true rfl) ?_
  intro p e s m args below meth c A ls Q H locs hx hb hr hlk hml hown hnm hts hz hA hQ hw hl
  have hl : lv_has ls 3 [(0, .ref a0.1), (1, .int p1)] := hl
  have hw : ww A s.heap D [[(a0.1, .inr (9, [.int v0.1, .int v0.2.1, .ref a0.2]))], [(a0.2, .inl (cA, v0.2.2.1, .inl v0.2.2.2))]] H locs := hw
  refine lv_iload_n hx hb dX9_removeRow_0 rfl (lv_at hl 1 rfl) ?_
  refine lv_aload_n hx hb dX9_removeRow_1 rfl (lv_at hl 0 rfl) ?_
  refine k_get (ci := 9) (v := .int v0.1) (C := RX9) (T := TX9) (N := 3) hx hb hts hown hz hw (by decide +kernel) 0 rfl rfl 0 (by decide) (hts (.fieldLink RX9 9 "OccupancyMonitor$Table" "rows" "I") (by decide +kernel)) (fun _ h9 => h9) rfl dX9_removeRow_2 ?_
  obtain ⟨o1, hso1, hsp⟩ := bnd_of hsp
  refine k_callSN (nA := 2) (As := [.int p1, .int v0.1]) (host := "OccupancyMonitor") (cs := []) (rs := [[(a0.1, .inr (9, [.int v0.1, .int v0.2.1, .ref a0.2]))], [(a0.2, .inl (cA, v0.2.2.1, .inl v0.2.2.2))]]) (cs1 := []) (bs1 := [[(a0.1, .inr (9, [.int v0.1, .int v0.2.1, .ref a0.2]))], [(a0.2, .inl (cA, v0.2.2.1, .inl v0.2.2.2))]]) (rest := []) (st1 := [.int o1]) ⟨hx, hb, hml, hown, hts⟩ hz hw hA (mX10_within l D cA cR p1 v0.1 o1 hso1) gX9_removeRow_X10_within_n41 rfl rfl rfl (by decide +kernel) (by decide +kernel) (by decide +kernel) (by decide +kernel) rfl ⟨Nat.le_of_ble_eq_true rfl, Nat.le_of_ble_eq_true rfl⟩ hl.1 rfl (Nat.le_of_ble_eq_true rfl) dX9_removeRow_5 ⟨Nat.le_of_ble_eq_true rfl, Nat.le_of_ble_eq_true rfl⟩ [] [0, 1] [0, 1] rfl rfl rfl rfl rfl rfl (fun H locs hw => ?_)
  refine lv_if_eq (tgt := 48) hx hb dX9_removeRow_8 (by decide) (fun c2 => ?_) (fun c2 => ?_)
  · have hsp := ift c2 hsp
    have hsp := Option.some.inj hsp
    subst hsp
    have hw : ww A s.heap D [w9 cA a0 v0] H locs := hw
    subst hQ
    exact k_vret hx hb hr hlk hw dX9_removeRow_48
  · have hsp := iff_ c2 hsp
    refine lv_iload_n hx hb dX9_removeRow_11 rfl (lv_at hl 1 rfl) ?_
    refine lv_aload_n hx hb dX9_removeRow_12 rfl (lv_at hl 0 rfl) ?_
    refine k_get (ci := 9) (v := .int v0.2.1) (C := RX9) (T := TX9) (N := 3) hx hb hts hown hz hw (by decide +kernel) 0 rfl rfl 1 (by decide) (hts (.fieldLink RX9 15 "OccupancyMonitor$Table" "columns" "I") (by decide +kernel)) (fun _ h9 => h9) rfl dX9_removeRow_13 ?_
    refine lv_imul hx hb dX9_removeRow_16 ?_
    refine lv_istore_n (lv' := [(2, .int (p1 * v0.2.1)), (0, .ref a0.1), (1, .int p1)]) hx hb dX9_removeRow_17 rfl hl (by decide) rfl (fun ls hl => ?_)
    refine lv_aload_n hx hb dX9_removeRow_18 rfl (lv_at hl 1 rfl) ?_
    refine k_get (ci := 9) (v := .ref a0.2) (C := RX9) (T := TX9) (N := 3) hx hb hts hown hz hw (by decide +kernel) 0 rfl rfl 2 (by decide) (hts (.fieldLink RX9 24 "OccupancyMonitor$Table" "cells" "[I") (by decide +kernel)) (fun _ h9 => h9) rfl dX9_removeRow_19 ?_
    refine lv_iload_n hx hb dX9_removeRow_22 rfl (lv_at hl 0 rfl) ?_
    refine lv_aload_n hx hb dX9_removeRow_23 rfl (lv_at hl 1 rfl) ?_
    refine k_get (ci := 9) (v := .int v0.2.1) (C := RX9) (T := TX9) (N := 3) hx hb hts hown hz hw (by decide +kernel) 0 rfl rfl 1 (by decide) (hts (.fieldLink RX9 15 "OccupancyMonitor$Table" "columns" "I") (by decide +kernel)) (fun _ h9 => h9) rfl dX9_removeRow_24 ?_
    refine lv_iadd hx hb dX9_removeRow_27 ?_
    refine lv_aload_n hx hb dX9_removeRow_28 rfl (lv_at hl 1 rfl) ?_
    refine k_get (ci := 9) (v := .ref a0.2) (C := RX9) (T := TX9) (N := 3) hx hb hts hown hz hw (by decide +kernel) 0 rfl rfl 2 (by decide) (hts (.fieldLink RX9 24 "OccupancyMonitor$Table" "cells" "[I") (by decide +kernel)) (fun _ h9 => h9) rfl dX9_removeRow_29 ?_
    refine lv_iload_n hx hb dX9_removeRow_32 rfl (lv_at hl 0 rfl) ?_
    refine lv_aload_n hx hb dX9_removeRow_33 rfl (lv_at hl 1 rfl) ?_
    refine k_get (ci := 9) (v := .ref a0.2) (C := RX9) (T := TX9) (N := 3) hx hb hts hown hz hw (by decide +kernel) 0 rfl rfl 2 (by decide) (hts (.fieldLink RX9 24 "OccupancyMonitor$Table" "cells" "[I") (by decide +kernel)) (fun _ h9 => h9) rfl dX9_removeRow_34 ?_
    refine k_alen hx hb hz hw 1 rfl dX9_removeRow_37 ?_
    refine lv_iload_n hx hb dX9_removeRow_38 rfl (lv_at hl 0 rfl) ?_
    refine lv_isub hx hb dX9_removeRow_39 ?_
    refine lv_aload_n hx hb dX9_removeRow_40 rfl (lv_at hl 1 rfl) ?_
    refine k_get (ci := 9) (v := .int v0.2.1) (C := RX9) (T := TX9) (N := 3) hx hb hts hown hz hw (by decide +kernel) 0 rfl rfl 1 (by decide) (hts (.fieldLink RX9 15 "OccupancyMonitor$Table" "columns" "I") (by decide +kernel)) (fun _ h9 => h9) rfl dX9_removeRow_41 ?_
    refine lv_isub hx hb dX9_removeRow_44 ?_
    obtain ⟨g4, hsp⟩ := grd_of hsp
    obtain ⟨f3, ef3⟩ : ∃ u : Nat → Int32, u = (va_cpy v0.2.2.2 v0.2.2.2 ((p1 * v0.2.1) + v0.2.1).toNatClampNeg (p1 * v0.2.1).toNatClampNeg (((nI v0.2.2.1) - (p1 * v0.2.1)) - v0.2.1).toNatClampNeg) := ⟨_, rfl⟩
    have hsp := lt_of hsp ef3
    refine k_acopy (bs1 := [[(a0.1, .inr (9, [.int v0.1, .int v0.2.1, .ref a0.2]))], [(a0.2, .inl (cA, v0.2.2.1, .inl f3))]]) hx hb (by rw [hml]; exact hl.1.symm) hown (hts (.methodLink RX9 45 arraycopyName) (by decide +kernel)) (hts (.native arraycopyName) (by decide +kernel)) (hts (.static arraycopyName) (by decide +kernel)) (hts (.initialized "java/lang/System") (by decide +kernel)) hz hw 1 1 rfl rfl g4 (Nat.le_of_ble_eq_true rfl) (Nat.le_of_ble_eq_true rfl) dX9_removeRow_45 (by rw [ef3]; rfl) (fun H locs hw => ?_)
    have hsp := Option.some.inj hsp
    subst hsp
    have hw : ww A s.heap D [w9 cA a0 (v0.1, v0.2.1, (v0.2.2.1, f3))] H locs := hw
    subst hQ
    exact k_vret hx hb hr hlk hw dX9_removeRow_48
noncomputable def qX9_mixRows_6 (N : Nat) (v0 : V9) (p2 : Int32) : Nat → Int64 → Int32 → Option (Int64 × Int32)
  | 0, _, _ => none
  | n6 + 1, z6_0, z6_1 => (if p2 ≤ z6_1 then (some (z6_0, z6_1)) else ((sX9_mixRow N v0 z6_0 z6_1).bind (fun o7 => (qX9_mixRows_6 N v0 p2 n6 o7 (z6_1 + 1)))))
noncomputable def sX9_mixRows (N : Nat) (v0 : V9) (p1 : Int64) (p2 : Int32) : Option (Int64) := ((qX9_mixRows_6 N v0 p2 N p1 (0 : Int32)).bind (fun o5 => (some o5.1)))
abbrev rX9_mixRows : Room := { frames := 2, cells := 0, slots := 0, locals := 48 }
set_option maxHeartbeats 4000000 in
set_option maxRecDepth 100000 in
theorem mX9_mixRows (l : Launch) (D : va_G) (cA cR : ClassId) (N : Nat) (a0 : A9) (v0 : V9) (p1 : Int64) (p2 : Int32) (o : Int64) (hsp : sX9_mixRows N v0 p1 p2 = some o) : MI l yX9_mixRows wsX9_mixRows rX9_mixRows D cA cR [.ref a0.1, .long p1, .int p2] [w9 cA a0 v0] (some (.long o)) [w9 cA a0 v0] 0 0 := by
  have hsp : ((qX9_mixRows_6 N v0 p2 N p1 (0 : Int32)).bind (fun o5 => (some o5.1))) = some o := hsp
  refine MI.ofW (cc := cX9_mixRows) (maxL := 7) (ret := (some .long)) (by decide) rfl (Nat.le_of_ble_eq_true rfl) ?_
  intro p e s m args below meth c A ls Q H locs hx hb hr hlk hml hown hnm hts hz hA hQ hw hl
  have hl : lv_has ls 7 [(0, .ref a0.1), (1, .long p1), (3, .int p2)] := hl
  have hw : ww A s.heap D [w9 cA a0 v0] H locs := hw
  refine lv_lload_n hx hb dX9_mixRows_0 rfl (lv_at hl 1 rfl) ?_
  refine lv_lstore (lv' := [(4, .long p1), (0, .ref a0.1), (1, .long p1), (3, .int p2)]) hx hb dX9_mixRows_1 hl (by decide) rfl (fun ls hl => ?_)
  refine lv_iconst (v := 0) hx hb dX9_mixRows_3 (by decide) ?_
  refine lv_istore (lv' := [(6, .int (0 : Int32)), (4, .long p1), (0, .ref a0.1), (1, .long p1), (3, .int p2)]) hx hb dX9_mixRows_4 hl (by decide) rfl (fun ls hl => ?_)
  have L6 : ∀ (n6 : Nat) (z6_0 : Int64) (z6_1 : Int32) (o5 : Int64 × Int32), qX9_mixRows_6 N v0 p2 n6 z6_0 z6_1 = some o5 → ∀ (H : Heap) (locs : List Loc) (ls : Array Slot), ww A s.heap D [w9 cA a0 v0] H locs → lv_has ls 7 [(0, .ref a0.1), (1, .long p1), (3, .int p2), (4, .long z6_0), (6, .int z6_1)] → (∀ (y28 : Int64 × Int32), o5 = y28 → ∀ (H : Heap) (locs : List Loc) (ls : Array Slot), ww A s.heap D [w9 cA a0 v0] H locs → lv_has ls 7 [(0, .ref a0.1), (1, .long p1), (3, .int p2), (4, .long y28.1), (6, .int y28.2)] → W p l e rX9_mixRows s m args below meth c H locs 0 0 Q (F0 m 28 ls [])) → W p l e rX9_mixRows s m args below meth c H locs 0 0 Q (F0 m 6 ls []) := by
    intro n6
    induction n6 with
    | zero => intro z6_0 z6_1 o5 hsp; cases hsp
    | succ n6 ih6 =>
      intro z6_0 z6_1 o5 hsp H locs ls hw hl kx6_28
      have hsp : (if p2 ≤ z6_1 then (some (z6_0, z6_1)) else ((sX9_mixRow N v0 z6_0 z6_1).bind (fun o7 => (qX9_mixRows_6 N v0 p2 n6 o7 (z6_1 + 1))))) = some o5 := hsp
      refine lv_iload hx hb dX9_mixRows_6 (lv_at hl 4 rfl) ?_
      refine lv_iload_n hx hb dX9_mixRows_8 rfl (lv_at hl 2 rfl) ?_
      refine lv_icmp_ge (tgt := 28) hx hb dX9_mixRows_9 (by decide) (fun c6 => ?_) (fun c6 => ?_)
      · have hsp := ift c6 hsp
        have hsp := Option.some.inj hsp
        subst hsp
        exact kx6_28 _ rfl _ _ _ hw (lv_sub hl [0, 1, 2, 3, 4] rfl)
      · have hsp := iff_ c6 hsp
        refine lv_aload_n hx hb dX9_mixRows_12 rfl (lv_at hl 0 rfl) ?_
        refine lv_lload hx hb dX9_mixRows_13 (lv_at hl 3 rfl) ?_
        refine lv_iload hx hb dX9_mixRows_15 (lv_at hl 4 rfl) ?_
        obtain ⟨o7, hso7, hsp⟩ := bnd_of hsp
        refine k_callV (ci := 9) (C := RX9) (T := TX9) (N := 3) (nA := 2) (As := [.long z6_0, .int z6_1]) (cs := [w9 cA a0 v0]) (rs := []) (cs1 := [w9 cA a0 v0]) (bs1 := [w9 cA a0 v0]) (rest := []) (st1 := [.long o7]) ⟨hx, hb, hml, hown, hts⟩ hz hw hA (mX9_mixRow l D cA cR N a0 v0 z6_0 z6_1 o7 hso7) gX9_mixRows_X9_mixRow rfl rfl rfl (by decide +kernel) rfl ⟨Nat.le_of_ble_eq_true rfl, Nat.le_of_ble_eq_true rfl⟩ rfl rfl hl.1 rfl (Nat.le_of_ble_eq_true rfl) dX9_mixRows_17 ⟨Nat.le_of_ble_eq_true rfl, Nat.le_of_ble_eq_true rfl⟩ [0] [] [0] rfl rfl rfl rfl rfl rfl (fun H locs hw => ?_)
        refine lv_lstore (lv' := [(4, .long o7), (0, .ref a0.1), (1, .long p1), (3, .int p2), (6, .int z6_1)]) hx hb dX9_mixRows_20 hl (by decide) rfl (fun ls hl => ?_)
        refine lv_iinc (v := (z6_1 + 1)) (lv' := [(6, .int (z6_1 + 1)), (4, .long o7), (0, .ref a0.1), (1, .long p1), (3, .int p2)]) hx hb dX9_mixRows_22 hl (k := 4) rfl rfl (by decide) rfl (fun ls hl => ?_)
        refine lv_goto (tgt := 6) hx hb dX9_mixRows_25 (by decide) ?_
        exact ih6 o7 (z6_1 + 1) _ hsp _ _ _ hw (lv_sub hl [2, 3, 4, 1, 0] rfl) kx6_28
  obtain ⟨o5, hso5, hsp⟩ := bnd_of hsp
  refine L6 N p1 (0 : Int32) _ hso5 _ _ _ hw (lv_sub hl [2, 3, 4, 1, 0] rfl) (fun y28 hy28 H locs ls hw hl => ?_)
  cases hy28
  refine lv_lload hx hb dX9_mixRows_28 (lv_at hl 3 rfl) ?_
  have hsp := Option.some.inj hsp
  subst hsp
  have hw : ww A s.heap D [w9 cA a0 v0] H locs := hw
  subst hQ
  exact k_lret hx hb hr hlk hw dX9_mixRows_30
