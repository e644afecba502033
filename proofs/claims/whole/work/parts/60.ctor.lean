noncomputable def sX9_init_10_6  : Option (V9) := (some ((10 : Int32), (6 : Int32), (60, (fun _ => 0))))
abbrev rX9_init_10_6 : Room := { frames := 1, cells := 1, slots := 60, locals := 21 }
set_option maxHeartbeats 4000000 in
set_option maxRecDepth 100000 in
theorem mX9_init_10_6 (l : Launch) (D : va_G) (cA cR : ClassId) (h0 : Nat) (o : V9) (hsp : sX9_init_10_6  = some o) : ME l yX9_init wsX9_init rX9_init_10_6 D cA cR [.ref h0, .int (10 : Int32), .int (6 : Int32)] [[(h0, .inr (9, [.int 0, .int 0, .null]))]] (fun x : Nat => [w9 cA (h0, x) o]) 1 60 := by
  have hsp : (some ((10 : Int32), (6 : Int32), (60, (fun _ => 0)))) = some o := hsp
  refine ME.ofW (cc := cX9_init) (maxL := 3) (ret := none) (by decide) rfl (Nat.le_of_ble_eq_true rfl) ?_
  intro p e s m args below meth c A ls Q H locs hx hb hr hlk hml hown hnm hts hz hO hA hQ hw hl
  have hl : lv_has ls 3 [(0, .ref h0), (1, .int (10 : Int32)), (2, .int (6 : Int32))] := hl
  have hw : ww A s.heap D [[(h0, .inr (9, [.int (0 : Int32), .int (0 : Int32), .null]))]] H locs := hw
  refine lv_aload_n hx hb dX9_init_0 rfl (lv_at hl 0 rfl) ?_
  refine W.objInit hx hb hown (hts (.methodLink RX9 3 objectInit) (by decide +kernel)) (hts (.instanceMethod objectInit) (by decide +kernel)) (hts (.code objectInit ⟨#[0xb1]⟩ 1 none) (by decide +kernel)) rfl (by rw [hml]; exact hl.1) rfl dX9_init_1 (Nat.le_of_ble_eq_true rfl) (Nat.le_of_ble_eq_true rfl) ?_
  refine W.eq (g2 := F0 m 4 ls []) rfl ?_
  refine lv_aload_n hx hb dX9_init_4 rfl (lv_at hl 0 rfl) ?_
  refine lv_iload_n hx hb dX9_init_5 rfl (lv_at hl 1 rfl) ?_
  refine k_putF (ci := 9) (v := .int (10 : Int32)) (ty := .int) (C := RX9) (T := TX9) (N := 3) (bs1 := [[(h0, .inr (9, [.int (10 : Int32), .int (0 : Int32), .null]))]]) hx hb hts hown hz hw (by decide +kernel) tyX9 tyX9_ok nmX9 0 rfl rfl 0 (by decide) (hts (.fieldLink RX9 9 "OccupancyMonitor$Table" "rows" "I") (by decide +kernel)) (fun _ h9 => h9) rfl hnm rfl (by decide +kernel) rfl rfl (Nat.le_of_ble_eq_true rfl) dX9_init_6 rfl (fun H locs hw => ?_)
  refine lv_aload_n hx hb dX9_init_9 rfl (lv_at hl 0 rfl) ?_
  refine lv_iload_n hx hb dX9_init_10 rfl (lv_at hl 2 rfl) ?_
  refine k_putF (ci := 9) (v := .int (6 : Int32)) (ty := .int) (C := RX9) (T := TX9) (N := 3) (bs1 := [[(h0, .inr (9, [.int (10 : Int32), .int (6 : Int32), .null]))]]) hx hb hts hown hz hw (by decide +kernel) tyX9 tyX9_ok nmX9 0 rfl rfl 1 (by decide) (hts (.fieldLink RX9 15 "OccupancyMonitor$Table" "columns" "I") (by decide +kernel)) (fun _ h9 => h9) rfl hnm rfl (by decide +kernel) rfl rfl (Nat.le_of_ble_eq_true rfl) dX9_init_11 rfl (fun H locs hw => ?_)
  refine lv_aload_n hx hb dX9_init_14 rfl (lv_at hl 0 rfl) ?_
  refine lv_iconst (v := 0) hx hb dX9_init_15 (by decide) ?_
  refine lv_iload_n hx hb dX9_init_16 rfl (lv_at hl 1 rfl) ?_
  refine lv_iload_n hx hb dX9_init_17 rfl (lv_at hl 2 rfl) ?_
  refine lv_imul hx hb dX9_init_18 ?_
  refine lv_topi (fun x1 ex1 => ?_)
  obtain rfl : x1 = (60 : Int32) := ex1.trans (by decide)
  refine va_mmax hx hb (by rw [hml]; exact hl.1.symm) hown (hts (.methodLink RX9 18 Lib.Math.max.name) (by decide +kernel)) (hts (.static Lib.Math.max.name) (by decide +kernel)) (hts (.initialized "java/lang/Math") (by decide +kernel)) (hts (.code Lib.Math.max.name Lib.Math.max.code 2 (some .int)) (by decide +kernel)) (Nat.le_of_ble_eq_true rfl) (Nat.le_of_ble_eq_true rfl) (Nat.le_of_ble_eq_true rfl) (Nat.le_of_ble_eq_true rfl) dX9_init_19 ?_
  refine lv_topi (fun x2 ex2 => ?_)
  obtain rfl : x2 = (60 : Int32) := ex2.trans (by decide)
  refine k_newi (N' := 60) hx hb hts hz hw hA (by decide +kernel) (by decide) (by decide) (Nat.le_of_ble_eq_true rfl) (Nat.le_of_ble_eq_true rfl) (Nat.le_of_ble_eq_true rfl) dX9_init_22 (fun q3 H hw => ?_)
  have hw : ww A s.heap D [[(h0, .inr (9, [.int (10 : Int32), .int (6 : Int32), .null]))], [(q3, .inl (cA, 60, .inl (fun _ => 0)))]] H locs := hw
  refine k_putF (ci := 9) (v := .ref q3) (ty := .array .int) (C := RX9) (T := TX9) (N := 3) (bs1 := [[(h0, .inr (9, [.int (10 : Int32), .int (6 : Int32), .ref q3]))], [(q3, .inl (cA, 60, .inl (fun _ => 0)))]]) hx hb hts hown hz hw (by decide +kernel) tyX9 tyX9_ok nmX9 0 rfl rfl 2 (by decide) (hts (.fieldLink RX9 24 "OccupancyMonitor$Table" "cells" "[I") (by decide +kernel)) (fun _ h9 => h9) rfl hnm rfl (by decide +kernel) rfl rfl (Nat.le_of_ble_eq_true rfl) dX9_init_24 rfl (fun H locs hw => ?_)
  have hsp := Option.some.inj hsp
  subst hsp
  have hw : ww A s.heap D [w9 cA (h0, q3) ((10 : Int32), (6 : Int32), (60, (fun _ => 0)))] H locs := hw
  subst hQ
  exact k_vretE q3 hx hb hr hlk hw dX9_init_27
noncomputable def sX9_init_12_3  : Option (V9) := (some ((12 : Int32), (3 : Int32), (36, (fun _ => 0))))
abbrev rX9_init_12_3 : Room := { frames := 1, cells := 1, slots := 36, locals := 21 }
set_option maxHeartbeats 4000000 in
set_option maxRecDepth 100000 in
theorem mX9_init_12_3 (l : Launch) (D : va_G) (cA cR : ClassId) (h0 : Nat) (o : V9) (hsp : sX9_init_12_3  = some o) : ME l yX9_init wsX9_init rX9_init_12_3 D cA cR [.ref h0, .int (12 : Int32), .int (3 : Int32)] [[(h0, .inr (9, [.int 0, .int 0, .null]))]] (fun x : Nat => [w9 cA (h0, x) o]) 1 36 := by
  have hsp : (some ((12 : Int32), (3 : Int32), (36, (fun _ => 0)))) = some o := hsp
  refine ME.ofW (cc := cX9_init) (maxL := 3) (ret := none) (by decide) rfl (Nat.le_of_ble_eq_true rfl) ?_
  intro p e s m args below meth c A ls Q H locs hx hb hr hlk hml hown hnm hts hz hO hA hQ hw hl
  have hl : lv_has ls 3 [(0, .ref h0), (1, .int (12 : Int32)), (2, .int (3 : Int32))] := hl
  have hw : ww A s.heap D [[(h0, .inr (9, [.int (0 : Int32), .int (0 : Int32), .null]))]] H locs := hw
  refine lv_aload_n hx hb dX9_init_0 rfl (lv_at hl 0 rfl) ?_
  refine W.objInit hx hb hown (hts (.methodLink RX9 3 objectInit) (by decide +kernel)) (hts (.instanceMethod objectInit) (by decide +kernel)) (hts (.code objectInit ⟨#[0xb1]⟩ 1 none) (by decide +kernel)) rfl (by rw [hml]; exact hl.1) rfl dX9_init_1 (Nat.le_of_ble_eq_true rfl) (Nat.le_of_ble_eq_true rfl) ?_
  refine W.eq (g2 := F0 m 4 ls []) rfl ?_
  refine lv_aload_n hx hb dX9_init_4 rfl (lv_at hl 0 rfl) ?_
  refine lv_iload_n hx hb dX9_init_5 rfl (lv_at hl 1 rfl) ?_
  refine k_putF (ci := 9) (v := .int (12 : Int32)) (ty := .int) (C := RX9) (T := TX9) (N := 3) (bs1 := [[(h0, .inr (9, [.int (12 : Int32), .int (0 : Int32), .null]))]]) hx hb hts hown hz hw (by decide +kernel) tyX9 tyX9_ok nmX9 0 rfl rfl 0 (by decide) (hts (.fieldLink RX9 9 "OccupancyMonitor$Table" "rows" "I") (by decide +kernel)) (fun _ h9 => h9) rfl hnm rfl (by decide +kernel) rfl rfl (Nat.le_of_ble_eq_true rfl) dX9_init_6 rfl (fun H locs hw => ?_)
  refine lv_aload_n hx hb dX9_init_9 rfl (lv_at hl 0 rfl) ?_
  refine lv_iload_n hx hb dX9_init_10 rfl (lv_at hl 2 rfl) ?_
  refine k_putF (ci := 9) (v := .int (3 : Int32)) (ty := .int) (C := RX9) (T := TX9) (N := 3) (bs1 := [[(h0, .inr (9, [.int (12 : Int32), .int (3 : Int32), .null]))]]) hx hb hts hown hz hw (by decide +kernel) tyX9 tyX9_ok nmX9 0 rfl rfl 1 (by decide) (hts (.fieldLink RX9 15 "OccupancyMonitor$Table" "columns" "I") (by decide +kernel)) (fun _ h9 => h9) rfl hnm rfl (by decide +kernel) rfl rfl (Nat.le_of_ble_eq_true rfl) dX9_init_11 rfl (fun H locs hw => ?_)
  refine lv_aload_n hx hb dX9_init_14 rfl (lv_at hl 0 rfl) ?_
  refine lv_iconst (v := 0) hx hb dX9_init_15 (by decide) ?_
  refine lv_iload_n hx hb dX9_init_16 rfl (lv_at hl 1 rfl) ?_
  refine lv_iload_n hx hb dX9_init_17 rfl (lv_at hl 2 rfl) ?_
  refine lv_imul hx hb dX9_init_18 ?_
  refine lv_topi (fun x1 ex1 => ?_)
  obtain rfl : x1 = (36 : Int32) := ex1.trans (by decide)
  refine va_mmax hx hb (by rw [hml]; exact hl.1.symm) hown (hts (.methodLink RX9 18 Lib.Math.max.name) (by decide +kernel)) (hts (.static Lib.Math.max.name) (by decide +kernel)) (hts (.initialized "java/lang/Math") (by decide +kernel)) (hts (.code Lib.Math.max.name Lib.Math.max.code 2 (some .int)) (by decide +kernel)) (Nat.le_of_ble_eq_true rfl) (Nat.le_of_ble_eq_true rfl) (Nat.le_of_ble_eq_true rfl) (Nat.le_of_ble_eq_true rfl) dX9_init_19 ?_
  refine lv_topi (fun x2 ex2 => ?_)
  obtain rfl : x2 = (36 : Int32) := ex2.trans (by decide)
  refine k_newi (N' := 36) hx hb hts hz hw hA (by decide +kernel) (by decide) (by decide) (Nat.le_of_ble_eq_true rfl) (Nat.le_of_ble_eq_true rfl) (Nat.le_of_ble_eq_true rfl) dX9_init_22 (fun q3 H hw => ?_)
  have hw : ww A s.heap D [[(h0, .inr (9, [.int (12 : Int32), .int (3 : Int32), .null]))], [(q3, .inl (cA, 36, .inl (fun _ => 0)))]] H locs := hw
  refine k_putF (ci := 9) (v := .ref q3) (ty := .array .int) (C := RX9) (T := TX9) (N := 3) (bs1 := [[(h0, .inr (9, [.int (12 : Int32), .int (3 : Int32), .ref q3]))], [(q3, .inl (cA, 36, .inl (fun _ => 0)))]]) hx hb hts hown hz hw (by decide +kernel) tyX9 tyX9_ok nmX9 0 rfl rfl 2 (by decide) (hts (.fieldLink RX9 24 "OccupancyMonitor$Table" "cells" "[I") (by decide +kernel)) (fun _ h9 => h9) rfl hnm rfl (by decide +kernel) rfl rfl (Nat.le_of_ble_eq_true rfl) dX9_init_24 rfl (fun H locs hw => ?_)
  have hsp := Option.some.inj hsp
  subst hsp
  have hw : ww A s.heap D [w9 cA (h0, q3) ((12 : Int32), (3 : Int32), (36, (fun _ => 0)))] H locs := hw
  subst hQ
  exact k_vretE q3 hx hb hr hlk hw dX9_init_27
noncomputable def sX9_init_32_4  : Option (V9) := (some ((32 : Int32), (4 : Int32), (128, (fun _ => 0))))
abbrev rX9_init_32_4 : Room := { frames := 1, cells := 1, slots := 128, locals := 21 }
set_option maxHeartbeats 4000000 in
set_option maxRecDepth 100000 in
theorem mX9_init_32_4 (l : Launch) (D : va_G) (cA cR : ClassId) (h0 : Nat) (o : V9) (hsp : sX9_init_32_4  = some o) : ME l yX9_init wsX9_init rX9_init_32_4 D cA cR [.ref h0, .int (32 : Int32), .int (4 : Int32)] [[(h0, .inr (9, [.int 0, .int 0, .null]))]] (fun x : Nat => [w9 cA (h0, x) o]) 1 128 := by
  have hsp : (some ((32 : Int32), (4 : Int32), (128, (fun _ => 0)))) = some o := hsp
  refine ME.ofW (cc := cX9_init) (maxL := 3) (ret := none) (by decide) rfl (Nat.le_of_ble_eq_true rfl) ?_
  intro p e s m args below meth c A ls Q H locs hx hb hr hlk hml hown hnm hts hz hO hA hQ hw hl
  have hl : lv_has ls 3 [(0, .ref h0), (1, .int (32 : Int32)), (2, .int (4 : Int32))] := hl
  have hw : ww A s.heap D [[(h0, .inr (9, [.int (0 : Int32), .int (0 : Int32), .null]))]] H locs := hw
  refine lv_aload_n hx hb dX9_init_0 rfl (lv_at hl 0 rfl) ?_
  refine W.objInit hx hb hown (hts (.methodLink RX9 3 objectInit) (by decide +kernel)) (hts (.instanceMethod objectInit) (by decide +kernel)) (hts (.code objectInit ⟨#[0xb1]⟩ 1 none) (by decide +kernel)) rfl (by rw [hml]; exact hl.1) rfl dX9_init_1 (Nat.le_of_ble_eq_true rfl) (Nat.le_of_ble_eq_true rfl) ?_
  refine W.eq (g2 := F0 m 4 ls []) rfl ?_
  refine lv_aload_n hx hb dX9_init_4 rfl (lv_at hl 0 rfl) ?_
  refine lv_iload_n hx hb dX9_init_5 rfl (lv_at hl 1 rfl) ?_
  refine k_putF (ci := 9) (v := .int (32 : Int32)) (ty := .int) (C := RX9) (T := TX9) (N := 3) (bs1 := [[(h0, .inr (9, [.int (32 : Int32), .int (0 : Int32), .null]))]]) hx hb hts hown hz hw (by decide +kernel) tyX9 tyX9_ok nmX9 0 rfl rfl 0 (by decide) (hts (.fieldLink RX9 9 "OccupancyMonitor$Table" "rows" "I") (by decide +kernel)) (fun _ h9 => h9) rfl hnm rfl (by decide +kernel) rfl rfl (Nat.le_of_ble_eq_true rfl) dX9_init_6 rfl (fun H locs hw => ?_)
  refine lv_aload_n hx hb dX9_init_9 rfl (lv_at hl 0 rfl) ?_
  refine lv_iload_n hx hb dX9_init_10 rfl (lv_at hl 2 rfl) ?_
  refine k_putF (ci := 9) (v := .int (4 : Int32)) (ty := .int) (C := RX9) (T := TX9) (N := 3) (bs1 := [[(h0, .inr (9, [.int (32 : Int32), .int (4 : Int32), .null]))]]) hx hb hts hown hz hw (by decide +kernel) tyX9 tyX9_ok nmX9 0 rfl rfl 1 (by decide) (hts (.fieldLink RX9 15 "OccupancyMonitor$Table" "columns" "I") (by decide +kernel)) (fun _ h9 => h9) rfl hnm rfl (by decide +kernel) rfl rfl (Nat.le_of_ble_eq_true rfl) dX9_init_11 rfl (fun H locs hw => ?_)
  refine lv_aload_n hx hb dX9_init_14 rfl (lv_at hl 0 rfl) ?_
  refine lv_iconst (v := 0) hx hb dX9_init_15 (by decide) ?_
  refine lv_iload_n hx hb dX9_init_16 rfl (lv_at hl 1 rfl) ?_
  refine lv_iload_n hx hb dX9_init_17 rfl (lv_at hl 2 rfl) ?_
  refine lv_imul hx hb dX9_init_18 ?_
  refine lv_topi (fun x1 ex1 => ?_)
  obtain rfl : x1 = (128 : Int32) := ex1.trans (by decide)
  refine va_mmax hx hb (by rw [hml]; exact hl.1.symm) hown (hts (.methodLink RX9 18 Lib.Math.max.name) (by decide +kernel)) (hts (.static Lib.Math.max.name) (by decide +kernel)) (hts (.initialized "java/lang/Math") (by decide +kernel)) (hts (.code Lib.Math.max.name Lib.Math.max.code 2 (some .int)) (by decide +kernel)) (Nat.le_of_ble_eq_true rfl) (Nat.le_of_ble_eq_true rfl) (Nat.le_of_ble_eq_true rfl) (Nat.le_of_ble_eq_true rfl) dX9_init_19 ?_
  refine lv_topi (fun x2 ex2 => ?_)
  obtain rfl : x2 = (128 : Int32) := ex2.trans (by decide)
  refine k_newi (N' := 128) hx hb hts hz hw hA (by decide +kernel) (by decide) (by decide) (Nat.le_of_ble_eq_true rfl) (Nat.le_of_ble_eq_true rfl) (Nat.le_of_ble_eq_true rfl) dX9_init_22 (fun q3 H hw => ?_)
  have hw : ww A s.heap D [[(h0, .inr (9, [.int (32 : Int32), .int (4 : Int32), .null]))], [(q3, .inl (cA, 128, .inl (fun _ => 0)))]] H locs := hw
  refine k_putF (ci := 9) (v := .ref q3) (ty := .array .int) (C := RX9) (T := TX9) (N := 3) (bs1 := [[(h0, .inr (9, [.int (32 : Int32), .int (4 : Int32), .ref q3]))], [(q3, .inl (cA, 128, .inl (fun _ => 0)))]]) hx hb hts hown hz hw (by decide +kernel) tyX9 tyX9_ok nmX9 0 rfl rfl 2 (by decide) (hts (.fieldLink RX9 24 "OccupancyMonitor$Table" "cells" "[I") (by decide +kernel)) (fun _ h9 => h9) rfl hnm rfl (by decide +kernel) rfl rfl (Nat.le_of_ble_eq_true rfl) dX9_init_24 rfl (fun H locs hw => ?_)
  have hsp := Option.some.inj hsp
  subst hsp
  have hw : ww A s.heap D [w9 cA (h0, q3) ((32 : Int32), (4 : Int32), (128, (fun _ => 0)))] H locs := hw
  subst hQ
  exact k_vretE q3 hx hb hr hlk hw dX9_init_27
noncomputable def sX9_init_32_8  : Option (V9) := (some ((32 : Int32), (8 : Int32), (256, (fun _ => 0))))
abbrev rX9_init_32_8 : Room := { frames := 1, cells := 1, slots := 256, locals := 21 }
set_option maxHeartbeats 4000000 in
set_option maxRecDepth 100000 in
theorem mX9_init_32_8 (l : Launch) (D : va_G) (cA cR : ClassId) (h0 : Nat) (o : V9) (hsp : sX9_init_32_8  = some o) : ME l yX9_init wsX9_init rX9_init_32_8 D cA cR [.ref h0, .int (32 : Int32), .int (8 : Int32)] [[(h0, .inr (9, [.int 0, .int 0, .null]))]] (fun x : Nat => [w9 cA (h0, x) o]) 1 256 := by
  have hsp : (some ((32 : Int32), (8 : Int32), (256, (fun _ => 0)))) = some o := hsp
  refine ME.ofW (cc := cX9_init) (maxL := 3) (ret := none) (by decide) rfl (Nat.le_of_ble_eq_true rfl) ?_
  intro p e s m args below meth c A ls Q H locs hx hb hr hlk hml hown hnm hts hz hO hA hQ hw hl
  have hl : lv_has ls 3 [(0, .ref h0), (1, .int (32 : Int32)), (2, .int (8 : Int32))] := hl
  have hw : ww A s.heap D [[(h0, .inr (9, [.int (0 : Int32), .int (0 : Int32), .null]))]] H locs := hw
  refine lv_aload_n hx hb dX9_init_0 rfl (lv_at hl 0 rfl) ?_
  refine W.objInit hx hb hown (hts (.methodLink RX9 3 objectInit) (by decide +kernel)) (hts (.instanceMethod objectInit) (by decide +kernel)) (hts (.code objectInit ⟨#[0xb1]⟩ 1 none) (by decide +kernel)) rfl (by rw [hml]; exact hl.1) rfl dX9_init_1 (Nat.le_of_ble_eq_true rfl) (Nat.le_of_ble_eq_true rfl) ?_
  refine W.eq (g2 := F0 m 4 ls []) rfl ?_
  refine lv_aload_n hx hb dX9_init_4 rfl (lv_at hl 0 rfl) ?_
  refine lv_iload_n hx hb dX9_init_5 rfl (lv_at hl 1 rfl) ?_
  refine k_putF (ci := 9) (v := .int (32 : Int32)) (ty := .int) (C := RX9) (T := TX9) (N := 3) (bs1 := [[(h0, .inr (9, [.int (32 : Int32), .int (0 : Int32), .null]))]]) hx hb hts hown hz hw (by decide +kernel) tyX9 tyX9_ok nmX9 0 rfl rfl 0 (by decide) (hts (.fieldLink RX9 9 "OccupancyMonitor$Table" "rows" "I") (by decide +kernel)) (fun _ h9 => h9) rfl hnm rfl (by decide +kernel) rfl rfl (Nat.le_of_ble_eq_true rfl) dX9_init_6 rfl (fun H locs hw => ?_)
  refine lv_aload_n hx hb dX9_init_9 rfl (lv_at hl 0 rfl) ?_
  refine lv_iload_n hx hb dX9_init_10 rfl (lv_at hl 2 rfl) ?_
  refine k_putF (ci := 9) (v := .int (8 : Int32)) (ty := .int) (C := RX9) (T := TX9) (N := 3) (bs1 := [[(h0, .inr (9, [.int (32 : Int32), .int (8 : Int32), .null]))]]) hx hb hts hown hz hw (by decide +kernel) tyX9 tyX9_ok nmX9 0 rfl rfl 1 (by decide) (hts (.fieldLink RX9 15 "OccupancyMonitor$Table" "columns" "I") (by decide +kernel)) (fun _ h9 => h9) rfl hnm rfl (by decide +kernel) rfl rfl (Nat.le_of_ble_eq_true rfl) dX9_init_11 rfl (fun H locs hw => ?_)
  refine lv_aload_n hx hb dX9_init_14 rfl (lv_at hl 0 rfl) ?_
  refine lv_iconst (v := 0) hx hb dX9_init_15 (by decide) ?_
  refine lv_iload_n hx hb dX9_init_16 rfl (lv_at hl 1 rfl) ?_
  refine lv_iload_n hx hb dX9_init_17 rfl (lv_at hl 2 rfl) ?_
  refine lv_imul hx hb dX9_init_18 ?_
  refine lv_topi (fun x1 ex1 => ?_)
  obtain rfl : x1 = (256 : Int32) := ex1.trans (by decide)
  refine va_mmax hx hb (by rw [hml]; exact hl.1.symm) hown (hts (.methodLink RX9 18 Lib.Math.max.name) (by decide +kernel)) (hts (.static Lib.Math.max.name) (by decide +kernel)) (hts (.initialized "java/lang/Math") (by decide +kernel)) (hts (.code Lib.Math.max.name Lib.Math.max.code 2 (some .int)) (by decide +kernel)) (Nat.le_of_ble_eq_true rfl) (Nat.le_of_ble_eq_true rfl) (Nat.le_of_ble_eq_true rfl) (Nat.le_of_ble_eq_true rfl) dX9_init_19 ?_
  refine lv_topi (fun x2 ex2 => ?_)
  obtain rfl : x2 = (256 : Int32) := ex2.trans (by decide)
  refine k_newi (N' := 256) hx hb hts hz hw hA (by decide +kernel) (by decide) (by decide) (Nat.le_of_ble_eq_true rfl) (Nat.le_of_ble_eq_true rfl) (Nat.le_of_ble_eq_true rfl) dX9_init_22 (fun q3 H hw => ?_)
  have hw : ww A s.heap D [[(h0, .inr (9, [.int (32 : Int32), .int (8 : Int32), .null]))], [(q3, .inl (cA, 256, .inl (fun _ => 0)))]] H locs := hw
  refine k_putF (ci := 9) (v := .ref q3) (ty := .array .int) (C := RX9) (T := TX9) (N := 3) (bs1 := [[(h0, .inr (9, [.int (32 : Int32), .int (8 : Int32), .ref q3]))], [(q3, .inl (cA, 256, .inl (fun _ => 0)))]]) hx hb hts hown hz hw (by decide +kernel) tyX9 tyX9_ok nmX9 0 rfl rfl 2 (by decide) (hts (.fieldLink RX9 24 "OccupancyMonitor$Table" "cells" "[I") (by decide +kernel)) (fun _ h9 => h9) rfl hnm rfl (by decide +kernel) rfl rfl (Nat.le_of_ble_eq_true rfl) dX9_init_24 rfl (fun H locs hw => ?_)
  have hsp := Option.some.inj hsp
  subst hsp
  have hw : ww A s.heap D [w9 cA (h0, q3) ((32 : Int32), (8 : Int32), (256, (fun _ => 0)))] H locs := hw
  subst hQ
  exact k_vretE q3 hx hb hr hlk hw dX9_init_27
noncomputable def sX9_init_32_1  : Option (V9) := (some ((32 : Int32), (1 : Int32), (32, (fun _ => 0))))
abbrev rX9_init_32_1 : Room := { frames := 1, cells := 1, slots := 32, locals := 21 }
set_option maxHeartbeats 4000000 in
set_option maxRecDepth 100000 in
theorem mX9_init_32_1 (l : Launch) (D : va_G) (cA cR : ClassId) (h0 : Nat) (o : V9) (hsp : sX9_init_32_1  = some o) : ME l yX9_init wsX9_init rX9_init_32_1 D cA cR [.ref h0, .int (32 : Int32), .int (1 : Int32)] [[(h0, .inr (9, [.int 0, .int 0, .null]))]] (fun x : Nat => [w9 cA (h0, x) o]) 1 32 := by
  have hsp : (some ((32 : Int32), (1 : Int32), (32, (fun _ => 0)))) = some o := hsp
  refine ME.ofW (cc := cX9_init) (maxL := 3) (ret := none) (by decide) rfl (Nat.le_of_ble_eq_true rfl) ?_
  intro p e s m args below meth c A ls Q H locs hx hb hr hlk hml hown hnm hts hz hO hA hQ hw hl
  have hl : lv_has ls 3 [(0, .ref h0), (1, .int (32 : Int32)), (2, .int (1 : Int32))] := hl
  have hw : ww A s.heap D [[(h0, .inr (9, [.int (0 : Int32), .int (0 : Int32), .null]))]] H locs := hw
  refine lv_aload_n hx hb dX9_init_0 rfl (lv_at hl 0 rfl) ?_
  refine W.objInit hx hb hown (hts (.methodLink RX9 3 objectInit) (by decide +kernel)) (hts (.instanceMethod objectInit) (by decide +kernel)) (hts (.code objectInit ⟨#[0xb1]⟩ 1 none) (by decide +kernel)) rfl (by rw [hml]; exact hl.1) rfl dX9_init_1 (Nat.le_of_ble_eq_true rfl) (Nat.le_of_ble_eq_true rfl) ?_
  refine W.eq (g2 := F0 m 4 ls []) rfl ?_
  refine lv_aload_n hx hb dX9_init_4 rfl (lv_at hl 0 rfl) ?_
  refine lv_iload_n hx hb dX9_init_5 rfl (lv_at hl 1 rfl) ?_
  refine k_putF (ci := 9) (v := .int (32 : Int32)) (ty := .int) (C := RX9) (T := TX9) (N := 3) (bs1 := [[(h0, .inr (9, [.int (32 : Int32), .int (0 : Int32), .null]))]]) hx hb hts hown hz hw (by decide +kernel) tyX9 tyX9_ok nmX9 0 rfl rfl 0 (by decide) (hts (.fieldLink RX9 9 "OccupancyMonitor$Table" "rows" "I") (by decide +kernel)) (fun _ h9 => h9) rfl hnm rfl (by decide +kernel) rfl rfl (Nat.le_of_ble_eq_true rfl) dX9_init_6 rfl (fun H locs hw => ?_)
  refine lv_aload_n hx hb dX9_init_9 rfl (lv_at hl 0 rfl) ?_
  refine lv_iload_n hx hb dX9_init_10 rfl (lv_at hl 2 rfl) ?_
  refine k_putF (ci := 9) (v := .int (1 : Int32)) (ty := .int) (C := RX9) (T := TX9) (N := 3) (bs1 := [[(h0, .inr (9, [.int (32 : Int32), .int (1 : Int32), .null]))]]) hx hb hts hown hz hw (by decide +kernel) tyX9 tyX9_ok nmX9 0 rfl rfl 1 (by decide) (hts (.fieldLink RX9 15 "OccupancyMonitor$Table" "columns" "I") (by decide +kernel)) (fun _ h9 => h9) rfl hnm rfl (by decide +kernel) rfl rfl (Nat.le_of_ble_eq_true rfl) dX9_init_11 rfl (fun H locs hw => ?_)
  refine lv_aload_n hx hb dX9_init_14 rfl (lv_at hl 0 rfl) ?_
  refine lv_iconst (v := 0) hx hb dX9_init_15 (by decide) ?_
  refine lv_iload_n hx hb dX9_init_16 rfl (lv_at hl 1 rfl) ?_
  refine lv_iload_n hx hb dX9_init_17 rfl (lv_at hl 2 rfl) ?_
  refine lv_imul hx hb dX9_init_18 ?_
  refine lv_topi (fun x1 ex1 => ?_)
  obtain rfl : x1 = (32 : Int32) := ex1.trans (by decide)
  refine va_mmax hx hb (by rw [hml]; exact hl.1.symm) hown (hts (.methodLink RX9 18 Lib.Math.max.name) (by decide +kernel)) (hts (.static Lib.Math.max.name) (by decide +kernel)) (hts (.initialized "java/lang/Math") (by decide +kernel)) (hts (.code Lib.Math.max.name Lib.Math.max.code 2 (some .int)) (by decide +kernel)) (Nat.le_of_ble_eq_true rfl) (Nat.le_of_ble_eq_true rfl) (Nat.le_of_ble_eq_true rfl) (Nat.le_of_ble_eq_true rfl) dX9_init_19 ?_
  refine lv_topi (fun x2 ex2 => ?_)
  obtain rfl : x2 = (32 : Int32) := ex2.trans (by decide)
  refine k_newi (N' := 32) hx hb hts hz hw hA (by decide +kernel) (by decide) (by decide) (Nat.le_of_ble_eq_true rfl) (Nat.le_of_ble_eq_true rfl) (Nat.le_of_ble_eq_true rfl) dX9_init_22 (fun q3 H hw => ?_)
  have hw : ww A s.heap D [[(h0, .inr (9, [.int (32 : Int32), .int (1 : Int32), .null]))], [(q3, .inl (cA, 32, .inl (fun _ => 0)))]] H locs := hw
  refine k_putF (ci := 9) (v := .ref q3) (ty := .array .int) (C := RX9) (T := TX9) (N := 3) (bs1 := [[(h0, .inr (9, [.int (32 : Int32), .int (1 : Int32), .ref q3]))], [(q3, .inl (cA, 32, .inl (fun _ => 0)))]]) hx hb hts hown hz hw (by decide +kernel) tyX9 tyX9_ok nmX9 0 rfl rfl 2 (by decide) (hts (.fieldLink RX9 24 "OccupancyMonitor$Table" "cells" "[I") (by decide +kernel)) (fun _ h9 => h9) rfl hnm rfl (by decide +kernel) rfl rfl (Nat.le_of_ble_eq_true rfl) dX9_init_24 rfl (fun H locs hw => ?_)
  have hsp := Option.some.inj hsp
  subst hsp
  have hw : ww A s.heap D [w9 cA (h0, q3) ((32 : Int32), (1 : Int32), (32, (fun _ => 0)))] H locs := hw
  subst hQ
  exact k_vretE q3 hx hb hr hlk hw dX9_init_27
noncomputable def sX9_init_50_5  : Option (V9) := (some ((50 : Int32), (5 : Int32), (250, (fun _ => 0))))
abbrev rX9_init_50_5 : Room := { frames := 1, cells := 1, slots := 250, locals := 21 }
set_option maxHeartbeats 4000000 in
set_option maxRecDepth 100000 in
theorem mX9_init_50_5 (l : Launch) (D : va_G) (cA cR : ClassId) (h0 : Nat) (o : V9) (hsp : sX9_init_50_5  = some o) : ME l yX9_init wsX9_init rX9_init_50_5 D cA cR [.ref h0, .int (50 : Int32), .int (5 : Int32)] [[(h0, .inr (9, [.int 0, .int 0, .null]))]] (fun x : Nat => [w9 cA (h0, x) o]) 1 250 := by
  have hsp : (some ((50 : Int32), (5 : Int32), (250, (fun _ => 0)))) = some o := hsp
  refine ME.ofW (cc := cX9_init) (maxL := 3) (ret := none) (by decide) rfl (Nat.le_of_ble_eq_true rfl) ?_
  intro p e s m args below meth c A ls Q H locs hx hb hr hlk hml hown hnm hts hz hO hA hQ hw hl
  have hl : lv_has ls 3 [(0, .ref h0), (1, .int (50 : Int32)), (2, .int (5 : Int32))] := hl
  have hw : ww A s.heap D [[(h0, .inr (9, [.int (0 : Int32), .int (0 : Int32), .null]))]] H locs := hw
  refine lv_aload_n hx hb dX9_init_0 rfl (lv_at hl 0 rfl) ?_
  refine W.objInit hx hb hown (hts (.methodLink RX9 3 objectInit) (by decide +kernel)) (hts (.instanceMethod objectInit) (by decide +kernel)) (hts (.code objectInit ⟨#[0xb1]⟩ 1 none) (by decide +kernel)) rfl (by rw [hml]; exact hl.1) rfl dX9_init_1 (Nat.le_of_ble_eq_true rfl) (Nat.le_of_ble_eq_true rfl) ?_
  refine W.eq (g2 := F0 m 4 ls []) rfl ?_
  refine lv_aload_n hx hb dX9_init_4 rfl (lv_at hl 0 rfl) ?_
  refine lv_iload_n hx hb dX9_init_5 rfl (lv_at hl 1 rfl) ?_
  refine k_putF (ci := 9) (v := .int (50 : Int32)) (ty := .int) (C := RX9) (T := TX9) (N := 3) (bs1 := [[(h0, .inr (9, [.int (50 : Int32), .int (0 : Int32), .null]))]]) hx hb hts hown hz hw (by decide +kernel) tyX9 tyX9_ok nmX9 0 rfl rfl 0 (by decide) (hts (.fieldLink RX9 9 "OccupancyMonitor$Table" "rows" "I") (by decide +kernel)) (fun _ h9 => h9) rfl hnm rfl (by decide +kernel) rfl rfl (Nat.le_of_ble_eq_true rfl) dX9_init_6 rfl (fun H locs hw => ?_)
  refine lv_aload_n hx hb dX9_init_9 rfl (lv_at hl 0 rfl) ?_
  refine lv_iload_n hx hb dX9_init_10 rfl (lv_at hl 2 rfl) ?_
  refine k_putF (ci := 9) (v := .int (5 : Int32)) (ty := .int) (C := RX9) (T := TX9) (N := 3) (bs1 := [[(h0, .inr (9, [.int (50 : Int32), .int (5 : Int32), .null]))]]) hx hb hts hown hz hw (by decide +kernel) tyX9 tyX9_ok nmX9 0 rfl rfl 1 (by decide) (hts (.fieldLink RX9 15 "OccupancyMonitor$Table" "columns" "I") (by decide +kernel)) (fun _ h9 => h9) rfl hnm rfl (by decide +kernel) rfl rfl (Nat.le_of_ble_eq_true rfl) dX9_init_11 rfl (fun H locs hw => ?_)
  refine lv_aload_n hx hb dX9_init_14 rfl (lv_at hl 0 rfl) ?_
  refine lv_iconst (v := 0) hx hb dX9_init_15 (by decide) ?_
  refine lv_iload_n hx hb dX9_init_16 rfl (lv_at hl 1 rfl) ?_
  refine lv_iload_n hx hb dX9_init_17 rfl (lv_at hl 2 rfl) ?_
  refine lv_imul hx hb dX9_init_18 ?_
  refine lv_topi (fun x1 ex1 => ?_)
  obtain rfl : x1 = (250 : Int32) := ex1.trans (by decide)
  refine va_mmax hx hb (by rw [hml]; exact hl.1.symm) hown (hts (.methodLink RX9 18 Lib.Math.max.name) (by decide +kernel)) (hts (.static Lib.Math.max.name) (by decide +kernel)) (hts (.initialized "java/lang/Math") (by decide +kernel)) (hts (.code Lib.Math.max.name Lib.Math.max.code 2 (some .int)) (by decide +kernel)) (Nat.le_of_ble_eq_true rfl) (Nat.le_of_ble_eq_true rfl) (Nat.le_of_ble_eq_true rfl) (Nat.le_of_ble_eq_true rfl) dX9_init_19 ?_
  refine lv_topi (fun x2 ex2 => ?_)
  obtain rfl : x2 = (250 : Int32) := ex2.trans (by decide)
  refine k_newi (N' := 250) hx hb hts hz hw hA (by decide +kernel) (by decide) (by decide) (Nat.le_of_ble_eq_true rfl) (Nat.le_of_ble_eq_true rfl) (Nat.le_of_ble_eq_true rfl) dX9_init_22 (fun q3 H hw => ?_)
  have hw : ww A s.heap D [[(h0, .inr (9, [.int (50 : Int32), .int (5 : Int32), .null]))], [(q3, .inl (cA, 250, .inl (fun _ => 0)))]] H locs := hw
  refine k_putF (ci := 9) (v := .ref q3) (ty := .array .int) (C := RX9) (T := TX9) (N := 3) (bs1 := [[(h0, .inr (9, [.int (50 : Int32), .int (5 : Int32), .ref q3]))], [(q3, .inl (cA, 250, .inl (fun _ => 0)))]]) hx hb hts hown hz hw (by decide +kernel) tyX9 tyX9_ok nmX9 0 rfl rfl 2 (by decide) (hts (.fieldLink RX9 24 "OccupancyMonitor$Table" "cells" "[I") (by decide +kernel)) (fun _ h9 => h9) rfl hnm rfl (by decide +kernel) rfl rfl (Nat.le_of_ble_eq_true rfl) dX9_init_24 rfl (fun H locs hw => ?_)
  have hsp := Option.some.inj hsp
  subst hsp
  have hw : ww A s.heap D [w9 cA (h0, q3) ((50 : Int32), (5 : Int32), (250, (fun _ => 0)))] H locs := hw
  subst hQ
  exact k_vretE q3 hx hb hr hlk hw dX9_init_27
noncomputable def sX0_init_100  : Option (V0) := (some ((100, (fun _ => 0)), (0 : Int32)))
abbrev rX0_init_100 : Room := { frames := 1, cells := 1, slots := 100, locals := 21 }
set_option maxHeartbeats 4000000 in
set_option maxRecDepth 100000 in
theorem mX0_init_100 (l : Launch) (D : va_G) (cA cR : ClassId) (h0 : Nat) (o : V0) (hsp : sX0_init_100  = some o) : ME l yX0_init wsX0_init rX0_init_100 D cA cR [.ref h0, .int (100 : Int32)] [[(h0, .inr (0, [.null, .int 0]))]] (fun x : Nat => [w0 cA (h0, x) o]) 1 100 := by
  have hsp : (some ((100, (fun _ => 0)), (0 : Int32))) = some o := hsp
  refine ME.ofW (cc := cX0_init) (maxL := 2) (ret := none) (by decide) rfl (Nat.le_of_ble_eq_true rfl) ?_
  intro p e s m args below meth c A ls Q H locs hx hb hr hlk hml hown hnm hts hz hO hA hQ hw hl
  have hl : lv_has ls 2 [(0, .ref h0), (1, .int (100 : Int32))] := hl
  have hw : ww A s.heap D [[(h0, .inr (0, [.null, .int (0 : Int32)]))]] H locs := hw
  refine lv_aload_n hx hb dX0_init_0 rfl (lv_at hl 0 rfl) ?_
  refine W.objInit hx hb hown (hts (.methodLink RX0 3 objectInit) (by decide +kernel)) (hts (.instanceMethod objectInit) (by decide +kernel)) (hts (.code objectInit ⟨#[0xb1]⟩ 1 none) (by decide +kernel)) rfl (by rw [hml]; exact hl.1) rfl dX0_init_1 (Nat.le_of_ble_eq_true rfl) (Nat.le_of_ble_eq_true rfl) ?_
  refine W.eq (g2 := F0 m 4 ls []) rfl ?_
  refine lv_aload_n hx hb dX0_init_4 rfl (lv_at hl 0 rfl) ?_
  refine lv_iconst (v := 0) hx hb dX0_init_5 (by decide) ?_
  refine lv_iload_n hx hb dX0_init_6 rfl (lv_at hl 1 rfl) ?_
  refine va_mmax hx hb (by rw [hml]; exact hl.1.symm) hown (hts (.methodLink RX0 9 Lib.Math.max.name) (by decide +kernel)) (hts (.static Lib.Math.max.name) (by decide +kernel)) (hts (.initialized "java/lang/Math") (by decide +kernel)) (hts (.code Lib.Math.max.name Lib.Math.max.code 2 (some .int)) (by decide +kernel)) (Nat.le_of_ble_eq_true rfl) (Nat.le_of_ble_eq_true rfl) (Nat.le_of_ble_eq_true rfl) (Nat.le_of_ble_eq_true rfl) dX0_init_7 ?_
  refine lv_topi (fun x1 ex1 => ?_)
  obtain rfl : x1 = (100 : Int32) := ex1.trans (by decide)
  refine k_newi (N' := 100) hx hb hts hz hw hA (by decide +kernel) (by decide) (by decide) (Nat.le_of_ble_eq_true rfl) (Nat.le_of_ble_eq_true rfl) (Nat.le_of_ble_eq_true rfl) dX0_init_10 (fun q2 H hw => ?_)
  have hw : ww A s.heap D [[(h0, .inr (0, [.null, .int (0 : Int32)]))], [(q2, .inl (cA, 100, .inl (fun _ => 0)))]] H locs := hw
  refine k_putF (ci := 0) (v := .ref q2) (ty := .array .int) (C := RX0) (T := TX0) (N := 2) (bs1 := [[(h0, .inr (0, [.ref q2, .int (0 : Int32)]))], [(q2, .inl (cA, 100, .inl (fun _ => 0)))]]) hx hb hts hown hz hw (by decide +kernel) tyX0 tyX0_ok nmX0 0 rfl rfl 0 (by decide) (hts (.fieldLink RX0 15 "OccupancyMonitor$Bytes" "values" "[I") (by decide +kernel)) (fun _ h9 => h9) rfl hnm rfl (by decide +kernel) rfl rfl (Nat.le_of_ble_eq_true rfl) dX0_init_12 rfl (fun H locs hw => ?_)
  have hsp := Option.some.inj hsp
  subst hsp
  have hw : ww A s.heap D [w0 cA (h0, q2) ((100, (fun _ => 0)), (0 : Int32))] H locs := hw
  subst hQ
  exact k_vretE q2 hx hb hr hlk hw dX0_init_15
noncomputable def sX0_init_108  : Option (V0) := (some ((108, (fun _ => 0)), (0 : Int32)))
abbrev rX0_init_108 : Room := { frames := 1, cells := 1, slots := 108, locals := 21 }
set_option maxHeartbeats 4000000 in
set_option maxRecDepth 100000 in
theorem mX0_init_108 (l : Launch) (D : va_G) (cA cR : ClassId) (h0 : Nat) (o : V0) (hsp : sX0_init_108  = some o) : ME l yX0_init wsX0_init rX0_init_108 D cA cR [.ref h0, .int (108 : Int32)] [[(h0, .inr (0, [.null, .int 0]))]] (fun x : Nat => [w0 cA (h0, x) o]) 1 108 := by
  have hsp : (some ((108, (fun _ => 0)), (0 : Int32))) = some o := hsp
  refine ME.ofW (cc := cX0_init) (maxL := 2) (ret := none) (by decide) rfl (Nat.le_of_ble_eq_true rfl) ?_
  intro p e s m args below meth c A ls Q H locs hx hb hr hlk hml hown hnm hts hz hO hA hQ hw hl
  have hl : lv_has ls 2 [(0, .ref h0), (1, .int (108 : Int32))] := hl
  have hw : ww A s.heap D [[(h0, .inr (0, [.null, .int (0 : Int32)]))]] H locs := hw
  refine lv_aload_n hx hb dX0_init_0 rfl (lv_at hl 0 rfl) ?_
  refine W.objInit hx hb hown (hts (.methodLink RX0 3 objectInit) (by decide +kernel)) (hts (.instanceMethod objectInit) (by decide +kernel)) (hts (.code objectInit ⟨#[0xb1]⟩ 1 none) (by decide +kernel)) rfl (by rw [hml]; exact hl.1) rfl dX0_init_1 (Nat.le_of_ble_eq_true rfl) (Nat.le_of_ble_eq_true rfl) ?_
  refine W.eq (g2 := F0 m 4 ls []) rfl ?_
  refine lv_aload_n hx hb dX0_init_4 rfl (lv_at hl 0 rfl) ?_
  refine lv_iconst (v := 0) hx hb dX0_init_5 (by decide) ?_
  refine lv_iload_n hx hb dX0_init_6 rfl (lv_at hl 1 rfl) ?_
  refine va_mmax hx hb (by rw [hml]; exact hl.1.symm) hown (hts (.methodLink RX0 9 Lib.Math.max.name) (by decide +kernel)) (hts (.static Lib.Math.max.name) (by decide +kernel)) (hts (.initialized "java/lang/Math") (by decide +kernel)) (hts (.code Lib.Math.max.name Lib.Math.max.code 2 (some .int)) (by decide +kernel)) (Nat.le_of_ble_eq_true rfl) (Nat.le_of_ble_eq_true rfl) (Nat.le_of_ble_eq_true rfl) (Nat.le_of_ble_eq_true rfl) dX0_init_7 ?_
  refine lv_topi (fun x1 ex1 => ?_)
  obtain rfl : x1 = (108 : Int32) := ex1.trans (by decide)
  refine k_newi (N' := 108) hx hb hts hz hw hA (by decide +kernel) (by decide) (by decide) (Nat.le_of_ble_eq_true rfl) (Nat.le_of_ble_eq_true rfl) (Nat.le_of_ble_eq_true rfl) dX0_init_10 (fun q2 H hw => ?_)
  have hw : ww A s.heap D [[(h0, .inr (0, [.null, .int (0 : Int32)]))], [(q2, .inl (cA, 108, .inl (fun _ => 0)))]] H locs := hw
  refine k_putF (ci := 0) (v := .ref q2) (ty := .array .int) (C := RX0) (T := TX0) (N := 2) (bs1 := [[(h0, .inr (0, [.ref q2, .int (0 : Int32)]))], [(q2, .inl (cA, 108, .inl (fun _ => 0)))]]) hx hb hts hown hz hw (by decide +kernel) tyX0 tyX0_ok nmX0 0 rfl rfl 0 (by decide) (hts (.fieldLink RX0 15 "OccupancyMonitor$Bytes" "values" "[I") (by decide +kernel)) (fun _ h9 => h9) rfl hnm rfl (by decide +kernel) rfl rfl (Nat.le_of_ble_eq_true rfl) dX0_init_12 rfl (fun H locs hw => ?_)
  have hsp := Option.some.inj hsp
  subst hsp
  have hw : ww A s.heap D [w0 cA (h0, q2) ((108, (fun _ => 0)), (0 : Int32))] H locs := hw
  subst hQ
  exact k_vretE q2 hx hb hr hlk hw dX0_init_15
noncomputable def sX7_init  : Option (V7) := ((sX9_init_10_6 ).bind (fun o2 => (some (o2, (0 : Int32)))))
abbrev rX7_init : Room := { frames := 2, cells := 2, slots := 63, locals := 43 }
set_option maxHeartbeats 4000000 in
set_option maxRecDepth 100000 in
theorem mX7_init (l : Launch) (D : va_G) (cA cR : ClassId) (h0 : Nat) (o : V7) (hsp : sX7_init  = some o) : ME l yX7_init wsX7_init rX7_init D cA cR [.ref h0] [[(h0, .inr (7, [.null, .int 0]))]] (fun x : A9 => [w7 cA (h0, x) o]) 2 63 := by
  have hsp : ((sX9_init_10_6 ).bind (fun o2 => (some (o2, (0 : Int32))))) = some o := hsp
  refine ME.ofW (cc := cX7_init) (maxL := 1) (ret := none) (by decide) rfl (Nat.le_of_ble_eq_true rfl) ?_
  intro p e s m args below meth c A ls Q H locs hx hb hr hlk hml hown hnm hts hz hO hA hQ hw hl
  have hl : lv_has ls 1 [(0, .ref h0)] := hl
  have hw : ww A s.heap D [[(h0, .inr (7, [.null, .int (0 : Int32)]))]] H locs := hw
  refine lv_aload_n hx hb dX7_init_0 rfl (lv_at hl 0 rfl) ?_
  refine W.objInit hx hb hown (hts (.methodLink RX7 3 objectInit) (by decide +kernel)) (hts (.instanceMethod objectInit) (by decide +kernel)) (hts (.code objectInit ⟨#[0xb1]⟩ 1 none) (by decide +kernel)) rfl (by rw [hml]; exact hl.1) rfl dX7_init_1 (Nat.le_of_ble_eq_true rfl) (Nat.le_of_ble_eq_true rfl) ?_
  refine W.eq (g2 := F0 m 4 ls []) rfl ?_
  refine lv_aload_n hx hb dX7_init_4 rfl (lv_at hl 0 rfl) ?_
  refine k_new (bs1 := []) (ci := 9) (C := RX9) (T := TX9) (N := 3) (fs := [.int 0, .int 0, .null]) hx hb hts hown hz hw hA (by decide +kernel) tyX9 tyX9_ok (by decide +kernel) (by decide +kernel) (by decide +kernel) rfl (fun j hj => by rcases (show j = 0 ∨ j = 1 ∨ j = 2 by omega) with rfl | rfl | rfl <;> rfl) (Nat.le_of_ble_eq_true rfl) (Nat.le_of_ble_eq_true rfl) dX7_init_5 (fun q1 H hw => ?_)
  have hw : ww A s.heap D [[(h0, .inr (7, [.null, .int (0 : Int32)]))], [(q1, .inr (9, [.int 0, .int 0, .null]))]] H locs := hw
  refine lv_dup hx hb dX7_init_8 rfl ?_
  refine lv_bipush (v := 10) hx hb dX7_init_9 (by decide) ?_
  refine lv_bipush (v := 6) hx hb dX7_init_11 (by decide) ?_
  obtain ⟨o2, hso2, hsp⟩ := bnd_of hsp
  refine k_callE (S := Nat) (cs := [[(q1, .inr (9, [.int 0, .int 0, .null]))]]) (rs := [[(h0, .inr (7, [.null, .int (0 : Int32)]))]]) (cs1 := fun x => [w9 cA (q1, x) o2]) (bs1 := fun x => [[(h0, .inr (7, [.null, .int (0 : Int32)]))], w9 cA (q1, x) o2]) (rest := [.ref q1, .ref h0]) hw hA [1] [0] [0, 1] rfl rfl rfl (fun _ => rfl) rfl (k_runIE (nA := 2) (As := [.int (10 : Int32), .int (6 : Int32)]) (b := q1) (cs := [[(q1, .inr (9, [.int 0, .int 0, .null]))]]) (rs := [[(h0, .inr (7, [.null, .int (0 : Int32)]))]]) (rest := [.ref q1, .ref h0]) ⟨hx, hb, hml, hown, hts⟩ hz hO hw hA (mX9_init_10_6 l D cA cR  q1 o2 hso2) gX7_init_X9_init rfl rfl rfl (by decide +kernel) (by decide +kernel) (by decide +kernel) rfl (by decide +kernel) rfl ⟨Nat.le_of_ble_eq_true rfl, Nat.le_of_ble_eq_true rfl⟩ hl.1 rfl (Nat.le_of_ble_eq_true rfl) dX7_init_13 ⟨Nat.le_of_ble_eq_true rfl, Nat.le_of_ble_eq_true rfl⟩ [1] [0] rfl rfl rfl) rfl (fun x3 H locs hw => ?_)
  have hw : ww A s.heap D [[(h0, .inr (7, [.null, .int (0 : Int32)]))], w9 cA (q1, x3) o2] H locs := hw
  refine k_putF (ci := 7) (v := .ref q1) (ty := .object "OccupancyMonitor$Table") (C := RX7) (T := TX7) (N := 2) (bs1 := [[(h0, .inr (7, [.ref q1, .int (0 : Int32)]))], w9 cA (q1, x3) o2]) hx hb hts hown hz hw (by decide +kernel) tyX7 tyX7_ok nmX7 0 rfl rfl 0 (by decide) (hts (.fieldLink RX7 14 "OccupancyMonitor$Signals" "table" "LOccupancyMonitor$Table;") (by decide +kernel)) (fun _ h9 => h9) rfl hnm rfl (by decide +kernel) rfl rfl (Nat.le_of_ble_eq_true rfl) dX7_init_16 rfl (fun H locs hw => ?_)
  have hsp := Option.some.inj hsp
  subst hsp
  have hw : ww A s.heap D [w7 cA (h0, (q1, x3)) (o2, (0 : Int32))] H locs := hw
  subst hQ
  exact k_vretE (q1, x3) hx hb hr hlk hw dX7_init_19
noncomputable def sX5_init  : Option (V5) := ((sX9_init_12_3 ).bind (fun o2 => (some (o2, (0 : Int32), (0 : Int32), (0 : Int32)))))
abbrev rX5_init : Room := { frames := 2, cells := 2, slots := 39, locals := 43 }
set_option maxHeartbeats 4000000 in
set_option maxRecDepth 100000 in
theorem mX5_init (l : Launch) (D : va_G) (cA cR : ClassId) (h0 : Nat) (o : V5) (hsp : sX5_init  = some o) : ME l yX5_init wsX5_init rX5_init D cA cR [.ref h0] [[(h0, .inr (5, [.null, .int 0, .int 0, .int 0]))]] (fun x : A9 => [w5 cA (h0, x) o]) 2 39 := by
  have hsp : ((sX9_init_12_3 ).bind (fun o2 => (some (o2, (0 : Int32), (0 : Int32), (0 : Int32))))) = some o := hsp
  refine ME.ofW (cc := cX5_init) (maxL := 1) (ret := none) (by decide) rfl (Nat.le_of_ble_eq_true rfl) ?_
  intro p e s m args below meth c A ls Q H locs hx hb hr hlk hml hown hnm hts hz hO hA hQ hw hl
  have hl : lv_has ls 1 [(0, .ref h0)] := hl
  have hw : ww A s.heap D [[(h0, .inr (5, [.null, .int (0 : Int32), .int (0 : Int32), .int (0 : Int32)]))]] H locs := hw
  refine lv_aload_n hx hb dX5_init_0 rfl (lv_at hl 0 rfl) ?_
  refine W.objInit hx hb hown (hts (.methodLink RX5 3 objectInit) (by decide +kernel)) (hts (.instanceMethod objectInit) (by decide +kernel)) (hts (.code objectInit ⟨#[0xb1]⟩ 1 none) (by decide +kernel)) rfl (by rw [hml]; exact hl.1) rfl dX5_init_1 (Nat.le_of_ble_eq_true rfl) (Nat.le_of_ble_eq_true rfl) ?_
  refine W.eq (g2 := F0 m 4 ls []) rfl ?_
  refine lv_aload_n hx hb dX5_init_4 rfl (lv_at hl 0 rfl) ?_
  refine k_new (bs1 := []) (ci := 9) (C := RX9) (T := TX9) (N := 3) (fs := [.int 0, .int 0, .null]) hx hb hts hown hz hw hA (by decide +kernel) tyX9 tyX9_ok (by decide +kernel) (by decide +kernel) (by decide +kernel) rfl (fun j hj => by rcases (show j = 0 ∨ j = 1 ∨ j = 2 by omega) with rfl | rfl | rfl <;> rfl) (Nat.le_of_ble_eq_true rfl) (Nat.le_of_ble_eq_true rfl) dX5_init_5 (fun q1 H hw => ?_)
  have hw : ww A s.heap D [[(h0, .inr (5, [.null, .int (0 : Int32), .int (0 : Int32), .int (0 : Int32)]))], [(q1, .inr (9, [.int 0, .int 0, .null]))]] H locs := hw
  refine lv_dup hx hb dX5_init_8 rfl ?_
  refine lv_bipush (v := 12) hx hb dX5_init_9 (by decide) ?_
  refine lv_iconst (v := 3) hx hb dX5_init_11 (by decide) ?_
  obtain ⟨o2, hso2, hsp⟩ := bnd_of hsp
  refine k_callE (S := Nat) (cs := [[(q1, .inr (9, [.int 0, .int 0, .null]))]]) (rs := [[(h0, .inr (5, [.null, .int (0 : Int32), .int (0 : Int32), .int (0 : Int32)]))]]) (cs1 := fun x => [w9 cA (q1, x) o2]) (bs1 := fun x => [[(h0, .inr (5, [.null, .int (0 : Int32), .int (0 : Int32), .int (0 : Int32)]))], w9 cA (q1, x) o2]) (rest := [.ref q1, .ref h0]) hw hA [1] [0] [0, 1] rfl rfl rfl (fun _ => rfl) rfl (k_runIE (nA := 2) (As := [.int (12 : Int32), .int (3 : Int32)]) (b := q1) (cs := [[(q1, .inr (9, [.int 0, .int 0, .null]))]]) (rs := [[(h0, .inr (5, [.null, .int (0 : Int32), .int (0 : Int32), .int (0 : Int32)]))]]) (rest := [.ref q1, .ref h0]) ⟨hx, hb, hml, hown, hts⟩ hz hO hw hA (mX9_init_12_3 l D cA cR  q1 o2 hso2) gX5_init_X9_init rfl rfl rfl (by decide +kernel) (by decide +kernel) (by decide +kernel) rfl (by decide +kernel) rfl ⟨Nat.le_of_ble_eq_true rfl, Nat.le_of_ble_eq_true rfl⟩ hl.1 rfl (Nat.le_of_ble_eq_true rfl) dX5_init_12 ⟨Nat.le_of_ble_eq_true rfl, Nat.le_of_ble_eq_true rfl⟩ [1] [0] rfl rfl rfl) rfl (fun x3 H locs hw => ?_)
  have hw : ww A s.heap D [[(h0, .inr (5, [.null, .int (0 : Int32), .int (0 : Int32), .int (0 : Int32)]))], w9 cA (q1, x3) o2] H locs := hw
  refine k_putF (ci := 5) (v := .ref q1) (ty := .object "OccupancyMonitor$Table") (C := RX5) (T := TX5) (N := 4) (bs1 := [[(h0, .inr (5, [.ref q1, .int (0 : Int32), .int (0 : Int32), .int (0 : Int32)]))], w9 cA (q1, x3) o2]) hx hb hts hown hz hw (by decide +kernel) tyX5 tyX5_ok nmX5 0 rfl rfl 0 (by decide) (hts (.fieldLink RX5 14 "OccupancyMonitor$Plan" "table" "LOccupancyMonitor$Table;") (by decide +kernel)) (fun _ h9 => h9) rfl hnm rfl (by decide +kernel) rfl rfl (Nat.le_of_ble_eq_true rfl) dX5_init_15 rfl (fun H locs hw => ?_)
  have hsp := Option.some.inj hsp
  subst hsp
  have hw : ww A s.heap D [w5 cA (h0, (q1, x3)) (o2, (0 : Int32), (0 : Int32), (0 : Int32))] H locs := hw
  subst hQ
  exact k_vretE (q1, x3) hx hb hr hlk hw dX5_init_18
noncomputable def sX1_init (N : Nat) : Option (V1) := ((sX9_init_32_4 ).bind (fun o2 => ((sX9_init_32_8 ).bind (fun o5 => ((sX9_init_32_1 ).bind (fun o8 => ((sX9_fill N o8 (100 : Int32)).bind (fun o10 => ((sX1_clear N (o2, o5, o10)).bind (fun o11 => (some (o11.1, o11.2.1, o11.2.2))))))))))))
abbrev rX1_init : Room := { frames := 3, cells := 6, slots := 425, locals := 65 }
set_option maxHeartbeats 4000000 in
set_option maxRecDepth 100000 in
theorem mX1_init (l : Launch) (D : va_G) (cA cR : ClassId) (N : Nat) (h0 : Nat) (o : V1) (hsp : sX1_init N  = some o) : ME l yX1_init wsX1_init rX1_init D cA cR [.ref h0] [[(h0, .inr (1, [.null, .null, .null]))]] (fun x : A9 × A9 × A9 => [w1 cA (h0, x) o]) 6 425 := by
  have hsp : ((sX9_init_32_4 ).bind (fun o2 => ((sX9_init_32_8 ).bind (fun o5 => ((sX9_init_32_1 ).bind (fun o8 => ((sX9_fill N o8 (100 : Int32)).bind (fun o10 => ((sX1_clear N (o2, o5, o10)).bind (fun o11 => (some (o11.1, o11.2.1, o11.2.2)))))))))))) = some o := hsp
  refine ME.ofW (cc := cX1_init) (maxL := 1) (ret := none) (by decide) rfl (Nat.le_of_ble_eq_true rfl) ?_
  intro p e s m args below meth c A ls Q H locs hx hb hr hlk hml hown hnm hts hz hO hA hQ hw hl
  have hl : lv_has ls 1 [(0, .ref h0)] := hl
  have hw : ww A s.heap D [[(h0, .inr (1, [.null, .null, .null]))]] H locs := hw
  refine lv_aload_n hx hb dX1_init_0 rfl (lv_at hl 0 rfl) ?_
  refine W.objInit hx hb hown (hts (.methodLink RX1 3 objectInit) (by decide +kernel)) (hts (.instanceMethod objectInit) (by decide +kernel)) (hts (.code objectInit ⟨#[0xb1]⟩ 1 none) (by decide +kernel)) rfl (by rw [hml]; exact hl.1) rfl dX1_init_1 (Nat.le_of_ble_eq_true rfl) (Nat.le_of_ble_eq_true rfl) ?_
  refine W.eq (g2 := F0 m 4 ls []) rfl ?_
  refine lv_aload_n hx hb dX1_init_4 rfl (lv_at hl 0 rfl) ?_
  refine k_new (bs1 := []) (ci := 9) (C := RX9) (T := TX9) (N := 3) (fs := [.int 0, .int 0, .null]) hx hb hts hown hz hw hA (by decide +kernel) tyX9 tyX9_ok (by decide +kernel) (by decide +kernel) (by decide +kernel) rfl (fun j hj => by rcases (show j = 0 ∨ j = 1 ∨ j = 2 by omega) with rfl | rfl | rfl <;> rfl) (Nat.le_of_ble_eq_true rfl) (Nat.le_of_ble_eq_true rfl) dX1_init_5 (fun q1 H hw => ?_)
  have hw : ww A s.heap D [[(h0, .inr (1, [.null, .null, .null]))], [(q1, .inr (9, [.int 0, .int 0, .null]))]] H locs := hw
  refine lv_dup hx hb dX1_init_8 rfl ?_
  refine lv_bipush (v := 32) hx hb dX1_init_9 (by decide) ?_
  refine lv_iconst (v := 4) hx hb dX1_init_11 (by decide) ?_
  obtain ⟨o2, hso2, hsp⟩ := bnd_of hsp
  refine k_callE (S := Nat) (cs := [[(q1, .inr (9, [.int 0, .int 0, .null]))]]) (rs := [[(h0, .inr (1, [.null, .null, .null]))]]) (cs1 := fun x => [w9 cA (q1, x) o2]) (bs1 := fun x => [[(h0, .inr (1, [.null, .null, .null]))], w9 cA (q1, x) o2]) (rest := [.ref q1, .ref h0]) hw hA [1] [0] [0, 1] rfl rfl rfl (fun _ => rfl) rfl (k_runIE (nA := 2) (As := [.int (32 : Int32), .int (4 : Int32)]) (b := q1) (cs := [[(q1, .inr (9, [.int 0, .int 0, .null]))]]) (rs := [[(h0, .inr (1, [.null, .null, .null]))]]) (rest := [.ref q1, .ref h0]) ⟨hx, hb, hml, hown, hts⟩ hz hO hw hA (mX9_init_32_4 l D cA cR  q1 o2 hso2) gX1_init_X9_init rfl rfl rfl (by decide +kernel) (by decide +kernel) (by decide +kernel) rfl (by decide +kernel) rfl ⟨Nat.le_of_ble_eq_true rfl, Nat.le_of_ble_eq_true rfl⟩ hl.1 rfl (Nat.le_of_ble_eq_true rfl) dX1_init_12 ⟨Nat.le_of_ble_eq_true rfl, Nat.le_of_ble_eq_true rfl⟩ [1] [0] rfl rfl rfl) rfl (fun x3 H locs hw => ?_)
  have hw : ww A s.heap D [[(h0, .inr (1, [.null, .null, .null]))], w9 cA (q1, x3) o2] H locs := hw
  refine k_putF (ci := 1) (v := .ref q1) (ty := .object "OccupancyMonitor$Table") (C := RX1) (T := TX1) (N := 3) (bs1 := [[(h0, .inr (1, [.ref q1, .null, .null]))], w9 cA (q1, x3) o2]) hx hb hts hown hz hw (by decide +kernel) tyX1 tyX1_ok nmX1 0 rfl rfl 0 (by decide) (hts (.fieldLink RX1 14 "OccupancyMonitor$Detectors" "table" "LOccupancyMonitor$Table;") (by decide +kernel)) (fun _ h9 => h9) rfl hnm rfl (by decide +kernel) rfl rfl (Nat.le_of_ble_eq_true rfl) dX1_init_15 rfl (fun H locs hw => ?_)
  refine lv_aload_n hx hb dX1_init_18 rfl (lv_at hl 0 rfl) ?_
  refine k_new (bs1 := []) (ci := 9) (C := RX9) (T := TX9) (N := 3) (fs := [.int 0, .int 0, .null]) hx hb hts hown hz hw hA (by decide +kernel) tyX9 tyX9_ok (by decide +kernel) (by decide +kernel) (by decide +kernel) rfl (fun j hj => by rcases (show j = 0 ∨ j = 1 ∨ j = 2 by omega) with rfl | rfl | rfl <;> rfl) (Nat.le_of_ble_eq_true rfl) (Nat.le_of_ble_eq_true rfl) dX1_init_19 (fun q4 H hw => ?_)
  have hw : ww A s.heap D [[(h0, .inr (1, [.ref q1, .null, .null]))], w9 cA (q1, x3) o2, [(q4, .inr (9, [.int 0, .int 0, .null]))]] H locs := hw
  refine lv_dup hx hb dX1_init_22 rfl ?_
  refine lv_bipush (v := 32) hx hb dX1_init_23 (by decide) ?_
  refine lv_bipush (v := 8) hx hb dX1_init_25 (by decide) ?_
  obtain ⟨o5, hso5, hsp⟩ := bnd_of hsp
  refine k_callE (S := Nat) (cs := [[(q4, .inr (9, [.int 0, .int 0, .null]))]]) (rs := [[(h0, .inr (1, [.ref q1, .null, .null]))], w9 cA (q1, x3) o2]) (cs1 := fun x => [w9 cA (q4, x) o5]) (bs1 := fun x => [[(h0, .inr (1, [.ref q1, .null, .null]))], w9 cA (q1, x3) o2, w9 cA (q4, x) o5]) (rest := [.ref q4, .ref h0]) hw hA [2] [0, 1] [0, 1, 2] rfl rfl rfl (fun _ => rfl) rfl (k_runIE (nA := 2) (As := [.int (32 : Int32), .int (8 : Int32)]) (b := q4) (cs := [[(q4, .inr (9, [.int 0, .int 0, .null]))]]) (rs := [[(h0, .inr (1, [.ref q1, .null, .null]))], w9 cA (q1, x3) o2]) (rest := [.ref q4, .ref h0]) ⟨hx, hb, hml, hown, hts⟩ hz hO hw hA (mX9_init_32_8 l D cA cR  q4 o5 hso5) gX1_init_X9_init rfl rfl rfl (by decide +kernel) (by decide +kernel) (by decide +kernel) rfl (by decide +kernel) rfl ⟨Nat.le_of_ble_eq_true rfl, Nat.le_of_ble_eq_true rfl⟩ hl.1 rfl (Nat.le_of_ble_eq_true rfl) dX1_init_27 ⟨Nat.le_of_ble_eq_true rfl, Nat.le_of_ble_eq_true rfl⟩ [2] [0, 1] rfl rfl rfl) rfl (fun x6 H locs hw => ?_)
  have hw : ww A s.heap D [[(h0, .inr (1, [.ref q1, .null, .null]))], w9 cA (q1, x3) o2, w9 cA (q4, x6) o5] H locs := hw
  refine k_putF (ci := 1) (v := .ref q4) (ty := .object "OccupancyMonitor$Table") (C := RX1) (T := TX1) (N := 3) (bs1 := [[(h0, .inr (1, [.ref q1, .ref q4, .null]))], w9 cA (q1, x3) o2, w9 cA (q4, x6) o5]) hx hb hts hown hz hw (by decide +kernel) tyX1 tyX1_ok nmX1 0 rfl rfl 1 (by decide) (hts (.fieldLink RX1 20 "OccupancyMonitor$Detectors" "latest" "LOccupancyMonitor$Table;") (by decide +kernel)) (fun _ h9 => h9) rfl hnm rfl (by decide +kernel) rfl rfl (Nat.le_of_ble_eq_true rfl) dX1_init_30 rfl (fun H locs hw => ?_)
  refine lv_aload_n hx hb dX1_init_33 rfl (lv_at hl 0 rfl) ?_
  refine k_new (bs1 := []) (ci := 9) (C := RX9) (T := TX9) (N := 3) (fs := [.int 0, .int 0, .null]) hx hb hts hown hz hw hA (by decide +kernel) tyX9 tyX9_ok (by decide +kernel) (by decide +kernel) (by decide +kernel) rfl (fun j hj => by rcases (show j = 0 ∨ j = 1 ∨ j = 2 by omega) with rfl | rfl | rfl <;> rfl) (Nat.le_of_ble_eq_true rfl) (Nat.le_of_ble_eq_true rfl) dX1_init_34 (fun q7 H hw => ?_)
  have hw : ww A s.heap D [[(h0, .inr (1, [.ref q1, .ref q4, .null]))], w9 cA (q1, x3) o2, w9 cA (q4, x6) o5, [(q7, .inr (9, [.int 0, .int 0, .null]))]] H locs := hw
  refine lv_dup hx hb dX1_init_37 rfl ?_
  refine lv_bipush (v := 32) hx hb dX1_init_38 (by decide) ?_
  refine lv_iconst (v := 1) hx hb dX1_init_40 (by decide) ?_
  obtain ⟨o8, hso8, hsp⟩ := bnd_of hsp
  refine k_callE (S := Nat) (cs := [[(q7, .inr (9, [.int 0, .int 0, .null]))]]) (rs := [[(h0, .inr (1, [.ref q1, .ref q4, .null]))], w9 cA (q1, x3) o2, w9 cA (q4, x6) o5]) (cs1 := fun x => [w9 cA (q7, x) o8]) (bs1 := fun x => [[(h0, .inr (1, [.ref q1, .ref q4, .null]))], w9 cA (q1, x3) o2, w9 cA (q4, x6) o5, w9 cA (q7, x) o8]) (rest := [.ref q7, .ref h0]) hw hA [3] [0, 1, 2] [0, 1, 2, 3] rfl rfl rfl (fun _ => rfl) rfl (k_runIE (nA := 2) (As := [.int (32 : Int32), .int (1 : Int32)]) (b := q7) (cs := [[(q7, .inr (9, [.int 0, .int 0, .null]))]]) (rs := [[(h0, .inr (1, [.ref q1, .ref q4, .null]))], w9 cA (q1, x3) o2, w9 cA (q4, x6) o5]) (rest := [.ref q7, .ref h0]) ⟨hx, hb, hml, hown, hts⟩ hz hO hw hA (mX9_init_32_1 l D cA cR  q7 o8 hso8) gX1_init_X9_init rfl rfl rfl (by decide +kernel) (by decide +kernel) (by decide +kernel) rfl (by decide +kernel) rfl ⟨Nat.le_of_ble_eq_true rfl, Nat.le_of_ble_eq_true rfl⟩ hl.1 rfl (Nat.le_of_ble_eq_true rfl) dX1_init_41 ⟨Nat.le_of_ble_eq_true rfl, Nat.le_of_ble_eq_true rfl⟩ [3] [0, 1, 2] rfl rfl rfl) rfl (fun x9 H locs hw => ?_)
  have hw : ww A s.heap D [[(h0, .inr (1, [.ref q1, .ref q4, .null]))], w9 cA (q1, x3) o2, w9 cA (q4, x6) o5, w9 cA (q7, x9) o8] H locs := hw
  refine k_putF (ci := 1) (v := .ref q7) (ty := .object "OccupancyMonitor$Table") (C := RX1) (T := TX1) (N := 3) (bs1 := [[(h0, .inr (1, [.ref q1, .ref q4, .ref q7]))], w9 cA (q1, x3) o2, w9 cA (q4, x6) o5, w9 cA (q7, x9) o8]) hx hb hts hown hz hw (by decide +kernel) tyX1 tyX1_ok nmX1 0 rfl rfl 2 (by decide) (hts (.fieldLink RX1 23 "OccupancyMonitor$Detectors" "masks" "LOccupancyMonitor$Table;") (by decide +kernel)) (fun _ h9 => h9) rfl hnm rfl (by decide +kernel) rfl rfl (Nat.le_of_ble_eq_true rfl) dX1_init_44 rfl (fun H locs hw => ?_)
  refine lv_aload_n hx hb dX1_init_47 rfl (lv_at hl 0 rfl) ?_
  refine k_get (ci := 1) (v := .ref q7) (C := RX1) (T := TX1) (N := 3) hx hb hts hown hz hw (by decide +kernel) 0 rfl rfl 2 (by decide) (hts (.fieldLink RX1 23 "OccupancyMonitor$Detectors" "masks" "LOccupancyMonitor$Table;") (by decide +kernel)) (fun _ h9 => h9) rfl dX1_init_48 ?_
  refine lv_bipush (v := 100) hx hb dX1_init_51 (by decide) ?_
  obtain ⟨o10, hso10, hsp⟩ := bnd_of hsp
  refine k_callV (ci := 9) (C := RX9) (T := TX9) (N := 3) (nA := 1) (As := [.int (100 : Int32)]) (cs := [w9 cA (q7, x9) o8]) (rs := [[(h0, .inr (1, [.ref q1, .ref q4, .ref q7]))], w9 cA (q1, x3) o2, w9 cA (q4, x6) o5]) (cs1 := [w9 cA (q7, x9) o10]) (bs1 := [[(h0, .inr (1, [.ref q1, .ref q4, .ref q7]))], w9 cA (q1, x3) o2, w9 cA (q4, x6) o5, w9 cA (q7, x9) o10]) (rest := []) (st1 := []) ⟨hx, hb, hml, hown, hts⟩ hz hw hA (mX9_fill l D cA cR N (q7, x9) o8 (100 : Int32) o10 hso10) gX1_init_X9_fill rfl rfl rfl (by decide +kernel) rfl ⟨Nat.le_of_ble_eq_true rfl, Nat.le_of_ble_eq_true rfl⟩ rfl rfl hl.1 rfl (Nat.le_of_ble_eq_true rfl) dX1_init_53 ⟨Nat.le_of_ble_eq_true rfl, Nat.le_of_ble_eq_true rfl⟩ [3] [0, 1, 2] [0, 1, 2, 3] rfl rfl rfl rfl rfl rfl (fun H locs hw => ?_)
  have hw : ww A s.heap D [[(h0, .inr (1, [.ref q1, .ref q4, .ref q7]))], w9 cA (q1, x3) o2, w9 cA (q4, x6) o5, w9 cA (q7, x9) o10] H locs := hw
  refine lv_aload_n hx hb dX1_init_56 rfl (lv_at hl 0 rfl) ?_
  have hw : ww A s.heap D [w1 cA (h0, (q1, x3), (q4, x6), (q7, x9)) (o2, o5, o10)] H locs := hw
  obtain ⟨o11, hso11, hsp⟩ := bnd_of hsp
  refine k_callV (ci := 1) (C := RX1) (T := TX1) (N := 3) (nA := 0) (As := []) (cs := [w1 cA (h0, (q1, x3), (q4, x6), (q7, x9)) (o2, o5, o10)]) (rs := []) (cs1 := [w1 cA (h0, (q1, x3), (q4, x6), (q7, x9)) o11]) (bs1 := [w1 cA (h0, (q1, x3), (q4, x6), (q7, x9)) o11]) (rest := []) (st1 := []) ⟨hx, hb, hml, hown, hts⟩ hz hw hA (mX1_clear l D cA cR N (h0, (q1, x3), (q4, x6), (q7, x9)) (o2, o5, o10) o11 hso11) gX1_init_X1_clear rfl rfl rfl (by decide +kernel) rfl ⟨Nat.le_of_ble_eq_true rfl, Nat.le_of_ble_eq_true rfl⟩ rfl rfl hl.1 rfl (Nat.le_of_ble_eq_true rfl) dX1_init_57 ⟨Nat.le_of_ble_eq_true rfl, Nat.le_of_ble_eq_true rfl⟩ [0] [] [0] rfl rfl rfl rfl rfl rfl (fun H locs hw => ?_)
  have hw : ww A s.heap D [[(h0, .inr (1, [.ref q1, .ref q4, .ref q7]))], w9 cA (q1, x3) o11.1, w9 cA (q4, x6) o11.2.1, w9 cA (q7, x9) o11.2.2] H locs := hw
  have hsp := Option.some.inj hsp
  subst hsp
  have hw : ww A s.heap D [w1 cA (h0, (q1, x3), (q4, x6), (q7, x9)) (o11.1, o11.2.1, o11.2.2)] H locs := hw
  subst hQ
  exact k_vretE ((q1, x3), (q4, x6), (q7, x9)) hx hb hr hlk hw dX1_init_60
noncomputable def qX2_init_42  : Nat → Int32 → (Nat → Int32) → Option (Int32 × (Nat → Int32))
  | 0, _, _ => none
  | n42 + 1, z42_0, z42_1 => (if (nI 50) ≤ z42_0 then (some (z42_0, z42_1)) else (grd (vp_in z42_0 50) (lt_ (upd z42_1 z42_0.toNatClampNeg z42_0) (fun f17 => (qX2_init_42 n42 (z42_0 + 1) f17)))))
noncomputable def sX2_init (N : Nat) : Option (V2) := ((sX9_init_50_5 ).bind (fun o2 => ((sX9_init_32_1 ).bind (fun o6 => ((qX2_init_42 N (0 : Int32) (fun _ => 0)).bind (fun o14 => ((sX9_fill N o6 (-1 : Int32)).bind (fun o18 => (some (o2, (50, o14.2), o18, (0 : Int32)))))))))))
abbrev rX2_init : Room := { frames := 2, cells := 5, slots := 338, locals := 44 }
set_option maxHeartbeats 4000000 in
set_option maxRecDepth 100000 in
theorem mX2_init (l : Launch) (D : va_G) (cA cR : ClassId) (N : Nat) (h0 : Nat) (o : V2) (hsp : sX2_init N  = some o) : ME l yX2_init wsX2_init rX2_init D cA cR [.ref h0] [[(h0, .inr (2, [.null, .null, .null, .int 0]))]] (fun x : A9 × Nat × A9 => [w2 cA (h0, x) o]) 5 338 := by
  have hsp : ((sX9_init_50_5 ).bind (fun o2 => ((sX9_init_32_1 ).bind (fun o6 => ((qX2_init_42 N (0 : Int32) (fun _ => 0)).bind (fun o14 => ((sX9_fill N o6 (-1 : Int32)).bind (fun o18 => (some (o2, (50, o14.2), o18, (0 : Int32))))))))))) = some o := hsp
  refine ME.ofW (cc := cX2_init) (maxL := 2) (ret := none) (by decide) rfl (Nat.le_of_ble_eq_true rfl) ?_
  intro p e s m args below meth c A ls Q H locs hx hb hr hlk hml hown hnm hts hz hO hA hQ hw hl
  have hl : lv_has ls 2 [(0, .ref h0)] := hl
  have hw : ww A s.heap D [[(h0, .inr (2, [.null, .null, .null, .int (0 : Int32)]))]] H locs := hw
  refine lv_aload_n hx hb dX2_init_0 rfl (lv_at hl 0 rfl) ?_
  refine W.objInit hx hb hown (hts (.methodLink RX2 3 objectInit) (by decide +kernel)) (hts (.instanceMethod objectInit) (by decide +kernel)) (hts (.code objectInit ⟨#[0xb1]⟩ 1 none) (by decide +kernel)) rfl (by rw [hml]; exact hl.1) rfl dX2_init_1 (Nat.le_of_ble_eq_true rfl) (Nat.le_of_ble_eq_true rfl) ?_
  refine W.eq (g2 := F0 m 4 ls []) rfl ?_
  refine lv_aload_n hx hb dX2_init_4 rfl (lv_at hl 0 rfl) ?_
  refine k_new (bs1 := []) (ci := 9) (C := RX9) (T := TX9) (N := 3) (fs := [.int 0, .int 0, .null]) hx hb hts hown hz hw hA (by decide +kernel) tyX9 tyX9_ok (by decide +kernel) (by decide +kernel) (by decide +kernel) rfl (fun j hj => by rcases (show j = 0 ∨ j = 1 ∨ j = 2 by omega) with rfl | rfl | rfl <;> rfl) (Nat.le_of_ble_eq_true rfl) (Nat.le_of_ble_eq_true rfl) dX2_init_5 (fun q1 H hw => ?_)
  have hw : ww A s.heap D [[(h0, .inr (2, [.null, .null, .null, .int (0 : Int32)]))], [(q1, .inr (9, [.int 0, .int 0, .null]))]] H locs := hw
  refine lv_dup hx hb dX2_init_8 rfl ?_
  refine lv_bipush (v := 50) hx hb dX2_init_9 (by decide) ?_
  refine lv_iconst (v := 5) hx hb dX2_init_11 (by decide) ?_
  obtain ⟨o2, hso2, hsp⟩ := bnd_of hsp
  refine k_callE (S := Nat) (cs := [[(q1, .inr (9, [.int 0, .int 0, .null]))]]) (rs := [[(h0, .inr (2, [.null, .null, .null, .int (0 : Int32)]))]]) (cs1 := fun x => [w9 cA (q1, x) o2]) (bs1 := fun x => [[(h0, .inr (2, [.null, .null, .null, .int (0 : Int32)]))], w9 cA (q1, x) o2]) (rest := [.ref q1, .ref h0]) hw hA [1] [0] [0, 1] rfl rfl rfl (fun _ => rfl) rfl (k_runIE (nA := 2) (As := [.int (50 : Int32), .int (5 : Int32)]) (b := q1) (cs := [[(q1, .inr (9, [.int 0, .int 0, .null]))]]) (rs := [[(h0, .inr (2, [.null, .null, .null, .int (0 : Int32)]))]]) (rest := [.ref q1, .ref h0]) ⟨hx, hb, hml, hown, hts⟩ hz hO hw hA (mX9_init_50_5 l D cA cR  q1 o2 hso2) gX2_init_X9_init rfl rfl rfl (by decide +kernel) (by decide +kernel) (by decide +kernel) rfl (by decide +kernel) rfl ⟨Nat.le_of_ble_eq_true rfl, Nat.le_of_ble_eq_true rfl⟩ hl.1 rfl (Nat.le_of_ble_eq_true rfl) dX2_init_12 ⟨Nat.le_of_ble_eq_true rfl, Nat.le_of_ble_eq_true rfl⟩ [1] [0] rfl rfl rfl) rfl (fun x3 H locs hw => ?_)
  have hw : ww A s.heap D [[(h0, .inr (2, [.null, .null, .null, .int (0 : Int32)]))], w9 cA (q1, x3) o2] H locs := hw
  refine k_putF (ci := 2) (v := .ref q1) (ty := .object "OccupancyMonitor$Table") (C := RX2) (T := TX2) (N := 4) (bs1 := [[(h0, .inr (2, [.ref q1, .null, .null, .int (0 : Int32)]))], w9 cA (q1, x3) o2]) hx hb hts hown hz hw (by decide +kernel) tyX2 tyX2_ok nmX2 0 rfl rfl 0 (by decide) (hts (.fieldLink RX2 14 "OccupancyMonitor$EventLog" "slots" "LOccupancyMonitor$Table;") (by decide +kernel)) (fun _ h9 => h9) rfl hnm rfl (by decide +kernel) rfl rfl (Nat.le_of_ble_eq_true rfl) dX2_init_15 rfl (fun H locs hw => ?_)
  refine lv_aload_n hx hb dX2_init_18 rfl (lv_at hl 0 rfl) ?_
  refine lv_bipush (v := 50) hx hb dX2_init_19 (by decide) ?_
  refine k_newi (N' := 50) hx hb hts hz hw hA (by decide +kernel) (by decide) (by decide) (Nat.le_of_ble_eq_true rfl) (Nat.le_of_ble_eq_true rfl) (Nat.le_of_ble_eq_true rfl) dX2_init_21 (fun q4 H hw => ?_)
  have hw : ww A s.heap D [[(h0, .inr (2, [.ref q1, .null, .null, .int (0 : Int32)]))], w9 cA (q1, x3) o2, [(q4, .inl (cA, 50, .inl (fun _ => 0)))]] H locs := hw
  refine k_putF (ci := 2) (v := .ref q4) (ty := .array .int) (C := RX2) (T := TX2) (N := 4) (bs1 := [[(h0, .inr (2, [.ref q1, .ref q4, .null, .int (0 : Int32)]))], w9 cA (q1, x3) o2, [(q4, .inl (cA, 50, .inl (fun _ => 0)))]]) hx hb hts hown hz hw (by decide +kernel) tyX2 tyX2_ok nmX2 0 rfl rfl 1 (by decide) (hts (.fieldLink RX2 20 "OccupancyMonitor$EventLog" "order" "[I") (by decide +kernel)) (fun _ h9 => h9) rfl hnm rfl (by decide +kernel) rfl rfl (Nat.le_of_ble_eq_true rfl) dX2_init_23 rfl (fun H locs hw => ?_)
  refine lv_aload_n hx hb dX2_init_26 rfl (lv_at hl 0 rfl) ?_
  refine k_new (bs1 := []) (ci := 9) (C := RX9) (T := TX9) (N := 3) (fs := [.int 0, .int 0, .null]) hx hb hts hown hz hw hA (by decide +kernel) tyX9 tyX9_ok (by decide +kernel) (by decide +kernel) (by decide +kernel) rfl (fun j hj => by rcases (show j = 0 ∨ j = 1 ∨ j = 2 by omega) with rfl | rfl | rfl <;> rfl) (Nat.le_of_ble_eq_true rfl) (Nat.le_of_ble_eq_true rfl) dX2_init_27 (fun q5 H hw => ?_)
  have hw : ww A s.heap D [[(h0, .inr (2, [.ref q1, .ref q4, .null, .int (0 : Int32)]))], w9 cA (q1, x3) o2, [(q4, .inl (cA, 50, .inl (fun _ => 0)))], [(q5, .inr (9, [.int 0, .int 0, .null]))]] H locs := hw
  refine lv_dup hx hb dX2_init_30 rfl ?_
  refine lv_bipush (v := 32) hx hb dX2_init_31 (by decide) ?_
  refine lv_iconst (v := 1) hx hb dX2_init_33 (by decide) ?_
  obtain ⟨o6, hso6, hsp⟩ := bnd_of hsp
  refine k_callE (S := Nat) (cs := [[(q5, .inr (9, [.int 0, .int 0, .null]))]]) (rs := [[(h0, .inr (2, [.ref q1, .ref q4, .null, .int (0 : Int32)]))], w9 cA (q1, x3) o2, [(q4, .inl (cA, 50, .inl (fun _ => 0)))]]) (cs1 := fun x => [w9 cA (q5, x) o6]) (bs1 := fun x => [[(h0, .inr (2, [.ref q1, .ref q4, .null, .int (0 : Int32)]))], w9 cA (q1, x3) o2, [(q4, .inl (cA, 50, .inl (fun _ => 0)))], w9 cA (q5, x) o6]) (rest := [.ref q5, .ref h0]) hw hA [3] [0, 1, 2] [0, 1, 2, 3] rfl rfl rfl (fun _ => rfl) rfl (k_runIE (nA := 2) (As := [.int (32 : Int32), .int (1 : Int32)]) (b := q5) (cs := [[(q5, .inr (9, [.int 0, .int 0, .null]))]]) (rs := [[(h0, .inr (2, [.ref q1, .ref q4, .null, .int (0 : Int32)]))], w9 cA (q1, x3) o2, [(q4, .inl (cA, 50, .inl (fun _ => 0)))]]) (rest := [.ref q5, .ref h0]) ⟨hx, hb, hml, hown, hts⟩ hz hO hw hA (mX9_init_32_1 l D cA cR  q5 o6 hso6) gX2_init_X9_init rfl rfl rfl (by decide +kernel) (by decide +kernel) (by decide +kernel) rfl (by decide +kernel) rfl ⟨Nat.le_of_ble_eq_true rfl, Nat.le_of_ble_eq_true rfl⟩ hl.1 rfl (Nat.le_of_ble_eq_true rfl) dX2_init_34 ⟨Nat.le_of_ble_eq_true rfl, Nat.le_of_ble_eq_true rfl⟩ [3] [0, 1, 2] rfl rfl rfl) rfl (fun x7 H locs hw => ?_)
  have hw : ww A s.heap D [[(h0, .inr (2, [.ref q1, .ref q4, .null, .int (0 : Int32)]))], w9 cA (q1, x3) o2, [(q4, .inl (cA, 50, .inl (fun _ => 0)))], w9 cA (q5, x7) o6] H locs := hw
  refine k_putF (ci := 2) (v := .ref q5) (ty := .object "OccupancyMonitor$Table") (C := RX2) (T := TX2) (N := 4) (bs1 := [[(h0, .inr (2, [.ref q1, .ref q4, .ref q5, .int (0 : Int32)]))], w9 cA (q1, x3) o2, [(q4, .inl (cA, 50, .inl (fun _ => 0)))], w9 cA (q5, x7) o6]) hx hb hts hown hz hw (by decide +kernel) tyX2 tyX2_ok nmX2 0 rfl rfl 2 (by decide) (hts (.fieldLink RX2 24 "OccupancyMonitor$EventLog" "openSlots" "LOccupancyMonitor$Table;") (by decide +kernel)) (fun _ h9 => h9) rfl hnm rfl (by decide +kernel) rfl rfl (Nat.le_of_ble_eq_true rfl) dX2_init_37 rfl (fun H locs hw => ?_)
  refine lv_iconst (v := 0) hx hb dX2_init_40 (by decide) ?_
  refine lv_istore_n (lv' := [(1, .int (0 : Int32)), (0, .ref h0)]) hx hb dX2_init_41 rfl hl (by decide) rfl (fun ls hl => ?_)
  have L42 : ∀ (n42 : Nat) (z42_0 : Int32) (z42_1 : (Nat → Int32)) (o14 : Int32 × (Nat → Int32)), qX2_init_42 n42 z42_0 z42_1 = some o14 → ∀ (H : Heap) (locs : List Loc) (ls : Array Slot), ww A s.heap D [[(h0, .inr (2, [.ref q1, .ref q4, .ref q5, .int (0 : Int32)]))], w9 cA (q1, x3) o2, [(q4, .inl (cA, 50, .inl z42_1))], w9 cA (q5, x7) o6] H locs → lv_has ls 2 [(0, .ref h0), (1, .int z42_0)] → (∀ (y64 : Int32 × (Nat → Int32)), o14 = y64 → ∀ (H : Heap) (locs : List Loc) (ls : Array Slot), ww A s.heap D [[(h0, .inr (2, [.ref q1, .ref q4, .ref q5, .int (0 : Int32)]))], w9 cA (q1, x3) o2, [(q4, .inl (cA, 50, .inl y64.2))], w9 cA (q5, x7) o6] H locs → lv_has ls 2 [(0, .ref h0), (1, .int y64.1)] → W p l e rX2_init s m args below meth c H locs 5 338 Q (F0 m 64 ls [])) → W p l e rX2_init s m args below meth c H locs 5 338 Q (F0 m 42 ls []) := by
    intro n42
    induction n42 with
    | zero => intro z42_0 z42_1 o14 hsp; cases hsp
    | succ n42 ih42 =>
      intro z42_0 z42_1 o14 hsp H locs ls hw hl kx42_64
      have hsp : (if (nI 50) ≤ z42_0 then (some (z42_0, z42_1)) else (grd (vp_in z42_0 50) (lt_ (upd z42_1 z42_0.toNatClampNeg z42_0) (fun f17 => (qX2_init_42 n42 (z42_0 + 1) f17))))) = some o14 := hsp
      refine lv_iload_n hx hb dX2_init_42 rfl (lv_at hl 1 rfl) ?_
      refine lv_aload_n hx hb dX2_init_43 rfl (lv_at hl 0 rfl) ?_
      refine k_get (ci := 2) (v := .ref q4) (C := RX2) (T := TX2) (N := 4) hx hb hts hown hz hw (by decide +kernel) 0 rfl rfl 1 (by decide) (hts (.fieldLink RX2 20 "OccupancyMonitor$EventLog" "order" "[I") (by decide +kernel)) (fun _ h9 => h9) rfl dX2_init_44 ?_
      refine k_alen hx hb hz hw 2 rfl dX2_init_47 ?_
      refine lv_icmp_ge (tgt := 64) hx hb dX2_init_48 (by decide) (fun c15 => ?_) (fun c15 => ?_)
      · have hsp := ift c15 hsp
        have hsp := Option.some.inj hsp
        subst hsp
        exact kx42_64 _ rfl _ _ _ hw (lv_sub hl [0, 1] rfl)
      · have hsp := iff_ c15 hsp
        refine lv_aload_n hx hb dX2_init_51 rfl (lv_at hl 0 rfl) ?_
        refine k_get (ci := 2) (v := .ref q4) (C := RX2) (T := TX2) (N := 4) hx hb hts hown hz hw (by decide +kernel) 0 rfl rfl 1 (by decide) (hts (.fieldLink RX2 20 "OccupancyMonitor$EventLog" "order" "[I") (by decide +kernel)) (fun _ h9 => h9) rfl dX2_init_52 ?_
        refine lv_iload_n hx hb dX2_init_55 rfl (lv_at hl 1 rfl) ?_
        refine lv_iload_n hx hb dX2_init_56 rfl (lv_at hl 1 rfl) ?_
        obtain ⟨g16, hsp⟩ := grd_of hsp
        obtain ⟨f17, ef17⟩ : ∃ u : Nat → Int32, u = (upd z42_1 z42_0.toNatClampNeg z42_0) := ⟨_, rfl⟩
        have hsp := lt_of hsp ef17
        refine k_iast (bs1 := [[(h0, .inr (2, [.ref q1, .ref q4, .ref q5, .int (0 : Int32)]))], w9 cA (q1, x3) o2, [(q4, .inl (cA, 50, .inl f17))], w9 cA (q5, x7) o6]) hx hb hz hw 2 rfl g16 dX2_init_57 (by rw [ef17]; rfl) (fun H locs hw => ?_)
        refine lv_iinc (v := (z42_0 + 1)) (lv' := [(1, .int (z42_0 + 1)), (0, .ref h0)]) hx hb dX2_init_58 hl (k := 1) rfl rfl (by decide) rfl (fun ls hl => ?_)
        refine lv_goto (tgt := 42) hx hb dX2_init_61 (by decide) ?_
        exact ih42 (z42_0 + 1) f17 _ hsp _ _ _ hw (lv_sub hl [1, 0] rfl) kx42_64
  obtain ⟨o14, hso14, hsp⟩ := bnd_of hsp
  refine L42 N (0 : Int32) (fun _ => 0) _ hso14 _ _ _ hw (lv_sub hl [1, 0] rfl) (fun y64 hy64 H locs ls hw hl => ?_)
  cases hy64
  refine lv_aload_n hx hb dX2_init_64 rfl (lv_at hl 0 rfl) ?_
  refine k_get (ci := 2) (v := .ref q5) (C := RX2) (T := TX2) (N := 4) hx hb hts hown hz hw (by decide +kernel) 0 rfl rfl 2 (by decide) (hts (.fieldLink RX2 24 "OccupancyMonitor$EventLog" "openSlots" "LOccupancyMonitor$Table;") (by decide +kernel)) (fun _ h9 => h9) rfl dX2_init_65 ?_
  refine lv_iconst (v := -1) hx hb dX2_init_68 (by decide) ?_
  obtain ⟨o18, hso18, hsp⟩ := bnd_of hsp
  refine k_callV (ci := 9) (C := RX9) (T := TX9) (N := 3) (nA := 1) (As := [.int (-1 : Int32)]) (cs := [w9 cA (q5, x7) o6]) (rs := [[(h0, .inr (2, [.ref q1, .ref q4, .ref q5, .int (0 : Int32)]))], w9 cA (q1, x3) o2, [(q4, .inl (cA, 50, .inl o14.2))]]) (cs1 := [w9 cA (q5, x7) o18]) (bs1 := [[(h0, .inr (2, [.ref q1, .ref q4, .ref q5, .int (0 : Int32)]))], w9 cA (q1, x3) o2, [(q4, .inl (cA, 50, .inl o14.2))], w9 cA (q5, x7) o18]) (rest := []) (st1 := []) ⟨hx, hb, hml, hown, hts⟩ hz hw hA (mX9_fill l D cA cR N (q5, x7) o6 (-1 : Int32) o18 hso18) gX2_init_X9_fill rfl rfl rfl (by decide +kernel) rfl ⟨Nat.le_of_ble_eq_true rfl, Nat.le_of_ble_eq_true rfl⟩ rfl rfl hl.1 rfl (Nat.le_of_ble_eq_true rfl) dX2_init_69 ⟨Nat.le_of_ble_eq_true rfl, Nat.le_of_ble_eq_true rfl⟩ [3] [0, 1, 2] [0, 1, 2, 3] rfl rfl rfl rfl rfl rfl (fun H locs hw => ?_)
  have hw : ww A s.heap D [[(h0, .inr (2, [.ref q1, .ref q4, .ref q5, .int (0 : Int32)]))], w9 cA (q1, x3) o2, [(q4, .inl (cA, 50, .inl o14.2))], w9 cA (q5, x7) o18] H locs := hw
  have hsp := Option.some.inj hsp
  subst hsp
  have hw : ww A s.heap D [w2 cA (h0, (q1, x3), q4, (q5, x7)) (o2, (50, o14.2), o18, (0 : Int32))] H locs := hw
  subst hQ
  exact k_vretE ((q1, x3), q4, (q5, x7)) hx hb hr hlk hw dX2_init_72
noncomputable def sX8_init (N : Nat) : Option (V8) := ((sX7_init ).bind (fun o2 => ((sX5_init ).bind (fun o5 => ((sX1_init N).bind (fun o8 => ((sX2_init N).bind (fun o11 => (some (o2, o5, o8, o11, (0 : Int32), (10 : Int32), (30 : Int32), (10 : Int32), (5 : Int32)))))))))))
abbrev rX8_init : Room := { frames := 4, cells := 19, slots := 878, locals := 85 }
set_option maxHeartbeats 4000000 in
set_option maxRecDepth 100000 in
theorem mX8_init (l : Launch) (D : va_G) (cA cR : ClassId) (N : Nat) (h0 : Nat) (o : V8) (hsp : sX8_init N  = some o) : ME l yX8_init wsX8_init rX8_init D cA cR [.ref h0] [[(h0, .inr (8, [.null, .null, .null, .null, .int 0, .int 0, .int 0, .int 0, .int 0]))]] (fun x : A7 × A5 × A1 × A2 => [w8 cA (h0, x) o]) 19 878 := by
  have hsp : ((sX7_init ).bind (fun o2 => ((sX5_init ).bind (fun o5 => ((sX1_init N).bind (fun o8 => ((sX2_init N).bind (fun o11 => (some (o2, o5, o8, o11, (0 : Int32), (10 : Int32), (30 : Int32), (10 : Int32), (5 : Int32))))))))))) = some o := hsp
  refine ME.ofW (cc := cX8_init) (maxL := 1) (ret := none) (by decide) rfl (Nat.le_of_ble_eq_true rfl) ?_
  intro p e s m args below meth c A ls Q H locs hx hb hr hlk hml hown hnm hts hz hO hA hQ hw hl
  have hl : lv_has ls 1 [(0, .ref h0)] := hl
  have hw : ww A s.heap D [[(h0, .inr (8, [.null, .null, .null, .null, .int (0 : Int32), .int (0 : Int32), .int (0 : Int32), .int (0 : Int32), .int (0 : Int32)]))]] H locs := hw
  refine lv_aload_n hx hb dX8_init_0 rfl (lv_at hl 0 rfl) ?_
  refine W.objInit hx hb hown (hts (.methodLink RX8 3 objectInit) (by decide +kernel)) (hts (.instanceMethod objectInit) (by decide +kernel)) (hts (.code objectInit ⟨#[0xb1]⟩ 1 none) (by decide +kernel)) rfl (by rw [hml]; exact hl.1) rfl dX8_init_1 (Nat.le_of_ble_eq_true rfl) (Nat.le_of_ble_eq_true rfl) ?_
  refine W.eq (g2 := F0 m 4 ls []) rfl ?_
  refine lv_aload_n hx hb dX8_init_4 rfl (lv_at hl 0 rfl) ?_
  refine k_new (bs1 := []) (ci := 7) (C := RX7) (T := TX7) (N := 2) (fs := [.null, .int 0]) hx hb hts hown hz hw hA (by decide +kernel) tyX7 tyX7_ok (by decide +kernel) (by decide +kernel) (by decide +kernel) rfl (fun j hj => by rcases (show j = 0 ∨ j = 1 by omega) with rfl | rfl <;> rfl) (Nat.le_of_ble_eq_true rfl) (Nat.le_of_ble_eq_true rfl) dX8_init_5 (fun q1 H hw => ?_)
  have hw : ww A s.heap D [[(h0, .inr (8, [.null, .null, .null, .null, .int (0 : Int32), .int (0 : Int32), .int (0 : Int32), .int (0 : Int32), .int (0 : Int32)]))], [(q1, .inr (7, [.null, .int 0]))]] H locs := hw
  refine lv_dup hx hb dX8_init_8 rfl ?_
  obtain ⟨o2, hso2, hsp⟩ := bnd_of hsp
  refine k_callE (S := A9) (cs := [[(q1, .inr (7, [.null, .int 0]))]]) (rs := [[(h0, .inr (8, [.null, .null, .null, .null, .int (0 : Int32), .int (0 : Int32), .int (0 : Int32), .int (0 : Int32), .int (0 : Int32)]))]]) (cs1 := fun x => [w7 cA (q1, x) o2]) (bs1 := fun x => [[(h0, .inr (8, [.null, .null, .null, .null, .int (0 : Int32), .int (0 : Int32), .int (0 : Int32), .int (0 : Int32), .int (0 : Int32)]))], w7 cA (q1, x) o2]) (rest := [.ref q1, .ref h0]) hw hA [1] [0] [0, 1] rfl rfl rfl (fun _ => rfl) rfl (k_runINE (host := "OccupancyMonitor") (nA := 0) (As := []) (b := q1) (cs := [[(q1, .inr (7, [.null, .int 0]))]]) (rs := [[(h0, .inr (8, [.null, .null, .null, .null, .int (0 : Int32), .int (0 : Int32), .int (0 : Int32), .int (0 : Int32), .int (0 : Int32)]))]]) (rest := [.ref q1, .ref h0]) ⟨hx, hb, hml, hown, hts⟩ hz hO hw hA (mX7_init l D cA cR  q1 o2 hso2) gX8_init_X7_init_n11 rfl rfl rfl (by decide +kernel) (by decide +kernel) (by decide +kernel) rfl (by decide +kernel) rfl ⟨Nat.le_of_ble_eq_true rfl, Nat.le_of_ble_eq_true rfl⟩ hl.1 rfl (Nat.le_of_ble_eq_true rfl) dX8_init_9 ⟨Nat.le_of_ble_eq_true rfl, Nat.le_of_ble_eq_true rfl⟩ [1] [0] rfl rfl rfl) rfl (fun x3 H locs hw => ?_)
  have hw : ww A s.heap D [[(h0, .inr (8, [.null, .null, .null, .null, .int (0 : Int32), .int (0 : Int32), .int (0 : Int32), .int (0 : Int32), .int (0 : Int32)]))], w7 cA (q1, x3) o2] H locs := hw
  refine k_putF (ci := 8) (v := .ref q1) (ty := .object "OccupancyMonitor$Signals") (C := RX8) (T := TX8) (N := 9) (bs1 := [[(h0, .inr (8, [.ref q1, .null, .null, .null, .int (0 : Int32), .int (0 : Int32), .int (0 : Int32), .int (0 : Int32), .int (0 : Int32)]))], w7 cA (q1, x3) o2]) hx hb hts hown hz hw (by decide +kernel) tyX8 tyX8_ok nmX8 0 rfl rfl 0 (by decide) (hts (.fieldLink RX8 12 "OccupancyMonitor$State" "signals" "LOccupancyMonitor$Signals;") (by decide +kernel)) (fun _ h9 => h9) rfl hnm rfl (by decide +kernel) rfl rfl (Nat.le_of_ble_eq_true rfl) dX8_init_12 rfl (fun H locs hw => ?_)
  refine lv_aload_n hx hb dX8_init_15 rfl (lv_at hl 0 rfl) ?_
  refine k_new (bs1 := []) (ci := 5) (C := RX5) (T := TX5) (N := 4) (fs := [.null, .int 0, .int 0, .int 0]) hx hb hts hown hz hw hA (by decide +kernel) tyX5 tyX5_ok (by decide +kernel) (by decide +kernel) (by decide +kernel) rfl (fun j hj => by rcases (show j = 0 ∨ j = 1 ∨ j = 2 ∨ j = 3 by omega) with rfl | rfl | rfl | rfl <;> rfl) (Nat.le_of_ble_eq_true rfl) (Nat.le_of_ble_eq_true rfl) dX8_init_16 (fun q4 H hw => ?_)
  have hw : ww A s.heap D [[(h0, .inr (8, [.ref q1, .null, .null, .null, .int (0 : Int32), .int (0 : Int32), .int (0 : Int32), .int (0 : Int32), .int (0 : Int32)]))], w7 cA (q1, x3) o2, [(q4, .inr (5, [.null, .int 0, .int 0, .int 0]))]] H locs := hw
  refine lv_dup hx hb dX8_init_19 rfl ?_
  obtain ⟨o5, hso5, hsp⟩ := bnd_of hsp
  refine k_callE (S := A9) (cs := [[(q4, .inr (5, [.null, .int 0, .int 0, .int 0]))]]) (rs := [[(h0, .inr (8, [.ref q1, .null, .null, .null, .int (0 : Int32), .int (0 : Int32), .int (0 : Int32), .int (0 : Int32), .int (0 : Int32)]))], w7 cA (q1, x3) o2]) (cs1 := fun x => [w5 cA (q4, x) o5]) (bs1 := fun x => [[(h0, .inr (8, [.ref q1, .null, .null, .null, .int (0 : Int32), .int (0 : Int32), .int (0 : Int32), .int (0 : Int32), .int (0 : Int32)]))], w7 cA (q1, x3) o2, w5 cA (q4, x) o5]) (rest := [.ref q4, .ref h0]) hw hA [2] [0, 1] [0, 1, 2] rfl rfl rfl (fun _ => rfl) rfl (k_runINE (host := "OccupancyMonitor") (nA := 0) (As := []) (b := q4) (cs := [[(q4, .inr (5, [.null, .int 0, .int 0, .int 0]))]]) (rs := [[(h0, .inr (8, [.ref q1, .null, .null, .null, .int (0 : Int32), .int (0 : Int32), .int (0 : Int32), .int (0 : Int32), .int (0 : Int32)]))], w7 cA (q1, x3) o2]) (rest := [.ref q4, .ref h0]) ⟨hx, hb, hml, hown, hts⟩ hz hO hw hA (mX5_init l D cA cR  q4 o5 hso5) gX8_init_X5_init_n20 rfl rfl rfl (by decide +kernel) (by decide +kernel) (by decide +kernel) rfl (by decide +kernel) rfl ⟨Nat.le_of_ble_eq_true rfl, Nat.le_of_ble_eq_true rfl⟩ hl.1 rfl (Nat.le_of_ble_eq_true rfl) dX8_init_20 ⟨Nat.le_of_ble_eq_true rfl, Nat.le_of_ble_eq_true rfl⟩ [2] [0, 1] rfl rfl rfl) rfl (fun x6 H locs hw => ?_)
  have hw : ww A s.heap D [[(h0, .inr (8, [.ref q1, .null, .null, .null, .int (0 : Int32), .int (0 : Int32), .int (0 : Int32), .int (0 : Int32), .int (0 : Int32)]))], w7 cA (q1, x3) o2, w5 cA (q4, x6) o5] H locs := hw
  refine k_putF (ci := 8) (v := .ref q4) (ty := .object "OccupancyMonitor$Plan") (C := RX8) (T := TX8) (N := 9) (bs1 := [[(h0, .inr (8, [.ref q1, .ref q4, .null, .null, .int (0 : Int32), .int (0 : Int32), .int (0 : Int32), .int (0 : Int32), .int (0 : Int32)]))], w7 cA (q1, x3) o2, w5 cA (q4, x6) o5]) hx hb hts hown hz hw (by decide +kernel) tyX8 tyX8_ok nmX8 0 rfl rfl 1 (by decide) (hts (.fieldLink RX8 21 "OccupancyMonitor$State" "plan" "LOccupancyMonitor$Plan;") (by decide +kernel)) (fun _ h9 => h9) rfl hnm rfl (by decide +kernel) rfl rfl (Nat.le_of_ble_eq_true rfl) dX8_init_23 rfl (fun H locs hw => ?_)
  refine lv_aload_n hx hb dX8_init_26 rfl (lv_at hl 0 rfl) ?_
  refine k_new (bs1 := []) (ci := 1) (C := RX1) (T := TX1) (N := 3) (fs := [.null, .null, .null]) hx hb hts hown hz hw hA (by decide +kernel) tyX1 tyX1_ok (by decide +kernel) (by decide +kernel) (by decide +kernel) rfl (fun j hj => by rcases (show j = 0 ∨ j = 1 ∨ j = 2 by omega) with rfl | rfl | rfl <;> rfl) (Nat.le_of_ble_eq_true rfl) (Nat.le_of_ble_eq_true rfl) dX8_init_27 (fun q7 H hw => ?_)
  have hw : ww A s.heap D [[(h0, .inr (8, [.ref q1, .ref q4, .null, .null, .int (0 : Int32), .int (0 : Int32), .int (0 : Int32), .int (0 : Int32), .int (0 : Int32)]))], w7 cA (q1, x3) o2, w5 cA (q4, x6) o5, [(q7, .inr (1, [.null, .null, .null]))]] H locs := hw
  refine lv_dup hx hb dX8_init_30 rfl ?_
  obtain ⟨o8, hso8, hsp⟩ := bnd_of hsp
  refine k_callE (S := A9 × A9 × A9) (cs := [[(q7, .inr (1, [.null, .null, .null]))]]) (rs := [[(h0, .inr (8, [.ref q1, .ref q4, .null, .null, .int (0 : Int32), .int (0 : Int32), .int (0 : Int32), .int (0 : Int32), .int (0 : Int32)]))], w7 cA (q1, x3) o2, w5 cA (q4, x6) o5]) (cs1 := fun x => [w1 cA (q7, x) o8]) (bs1 := fun x => [[(h0, .inr (8, [.ref q1, .ref q4, .null, .null, .int (0 : Int32), .int (0 : Int32), .int (0 : Int32), .int (0 : Int32), .int (0 : Int32)]))], w7 cA (q1, x3) o2, w5 cA (q4, x6) o5, w1 cA (q7, x) o8]) (rest := [.ref q7, .ref h0]) hw hA [3] [0, 1, 2] [0, 1, 2, 3] rfl rfl rfl (fun _ => rfl) rfl (k_runIE (nA := 0) (As := []) (b := q7) (cs := [[(q7, .inr (1, [.null, .null, .null]))]]) (rs := [[(h0, .inr (8, [.ref q1, .ref q4, .null, .null, .int (0 : Int32), .int (0 : Int32), .int (0 : Int32), .int (0 : Int32), .int (0 : Int32)]))], w7 cA (q1, x3) o2, w5 cA (q4, x6) o5]) (rest := [.ref q7, .ref h0]) ⟨hx, hb, hml, hown, hts⟩ hz hO hw hA (mX1_init l D cA cR N q7 o8 hso8) gX8_init_X1_init rfl rfl rfl (by decide +kernel) (by decide +kernel) (by decide +kernel) rfl (by decide +kernel) rfl ⟨Nat.le_of_ble_eq_true rfl, Nat.le_of_ble_eq_true rfl⟩ hl.1 rfl (Nat.le_of_ble_eq_true rfl) dX8_init_31 ⟨Nat.le_of_ble_eq_true rfl, Nat.le_of_ble_eq_true rfl⟩ [3] [0, 1, 2] rfl rfl rfl) rfl (fun x9 H locs hw => ?_)
  have hw : ww A s.heap D [[(h0, .inr (8, [.ref q1, .ref q4, .null, .null, .int (0 : Int32), .int (0 : Int32), .int (0 : Int32), .int (0 : Int32), .int (0 : Int32)]))], w7 cA (q1, x3) o2, w5 cA (q4, x6) o5, w1 cA (q7, x9) o8] H locs := hw
  refine k_putF (ci := 8) (v := .ref q7) (ty := .object "OccupancyMonitor$Detectors") (C := RX8) (T := TX8) (N := 9) (bs1 := [[(h0, .inr (8, [.ref q1, .ref q4, .ref q7, .null, .int (0 : Int32), .int (0 : Int32), .int (0 : Int32), .int (0 : Int32), .int (0 : Int32)]))], w7 cA (q1, x3) o2, w5 cA (q4, x6) o5, w1 cA (q7, x9) o8]) hx hb hts hown hz hw (by decide +kernel) tyX8 tyX8_ok nmX8 0 rfl rfl 2 (by decide) (hts (.fieldLink RX8 28 "OccupancyMonitor$State" "detectors" "LOccupancyMonitor$Detectors;") (by decide +kernel)) (fun _ h9 => h9) rfl hnm rfl (by decide +kernel) rfl rfl (Nat.le_of_ble_eq_true rfl) dX8_init_34 rfl (fun H locs hw => ?_)
  refine lv_aload_n hx hb dX8_init_37 rfl (lv_at hl 0 rfl) ?_
  refine k_new (bs1 := []) (ci := 2) (C := RX2) (T := TX2) (N := 4) (fs := [.null, .null, .null, .int 0]) hx hb hts hown hz hw hA (by decide +kernel) tyX2 tyX2_ok (by decide +kernel) (by decide +kernel) (by decide +kernel) rfl (fun j hj => by rcases (show j = 0 ∨ j = 1 ∨ j = 2 ∨ j = 3 by omega) with rfl | rfl | rfl | rfl <;> rfl) (Nat.le_of_ble_eq_true rfl) (Nat.le_of_ble_eq_true rfl) dX8_init_38 (fun q10 H hw => ?_)
  have hw : ww A s.heap D [[(h0, .inr (8, [.ref q1, .ref q4, .ref q7, .null, .int (0 : Int32), .int (0 : Int32), .int (0 : Int32), .int (0 : Int32), .int (0 : Int32)]))], w7 cA (q1, x3) o2, w5 cA (q4, x6) o5, w1 cA (q7, x9) o8, [(q10, .inr (2, [.null, .null, .null, .int 0]))]] H locs := hw
  refine lv_dup hx hb dX8_init_41 rfl ?_
  obtain ⟨o11, hso11, hsp⟩ := bnd_of hsp
  refine k_callE (S := A9 × Nat × A9) (cs := [[(q10, .inr (2, [.null, .null, .null, .int 0]))]]) (rs := [[(h0, .inr (8, [.ref q1, .ref q4, .ref q7, .null, .int (0 : Int32), .int (0 : Int32), .int (0 : Int32), .int (0 : Int32), .int (0 : Int32)]))], w7 cA (q1, x3) o2, w5 cA (q4, x6) o5, w1 cA (q7, x9) o8]) (cs1 := fun x => [w2 cA (q10, x) o11]) (bs1 := fun x => [[(h0, .inr (8, [.ref q1, .ref q4, .ref q7, .null, .int (0 : Int32), .int (0 : Int32), .int (0 : Int32), .int (0 : Int32), .int (0 : Int32)]))], w7 cA (q1, x3) o2, w5 cA (q4, x6) o5, w1 cA (q7, x9) o8, w2 cA (q10, x) o11]) (rest := [.ref q10, .ref h0]) hw hA [4] [0, 1, 2, 3] [0, 1, 2, 3, 4] rfl rfl rfl (fun _ => rfl) rfl (k_runIE (nA := 0) (As := []) (b := q10) (cs := [[(q10, .inr (2, [.null, .null, .null, .int 0]))]]) (rs := [[(h0, .inr (8, [.ref q1, .ref q4, .ref q7, .null, .int (0 : Int32), .int (0 : Int32), .int (0 : Int32), .int (0 : Int32), .int (0 : Int32)]))], w7 cA (q1, x3) o2, w5 cA (q4, x6) o5, w1 cA (q7, x9) o8]) (rest := [.ref q10, .ref h0]) ⟨hx, hb, hml, hown, hts⟩ hz hO hw hA (mX2_init l D cA cR N q10 o11 hso11) gX8_init_X2_init rfl rfl rfl (by decide +kernel) (by decide +kernel) (by decide +kernel) rfl (by decide +kernel) rfl ⟨Nat.le_of_ble_eq_true rfl, Nat.le_of_ble_eq_true rfl⟩ hl.1 rfl (Nat.le_of_ble_eq_true rfl) dX8_init_42 ⟨Nat.le_of_ble_eq_true rfl, Nat.le_of_ble_eq_true rfl⟩ [4] [0, 1, 2, 3] rfl rfl rfl) rfl (fun x12 H locs hw => ?_)
  have hw : ww A s.heap D [[(h0, .inr (8, [.ref q1, .ref q4, .ref q7, .null, .int (0 : Int32), .int (0 : Int32), .int (0 : Int32), .int (0 : Int32), .int (0 : Int32)]))], w7 cA (q1, x3) o2, w5 cA (q4, x6) o5, w1 cA (q7, x9) o8, w2 cA (q10, x12) o11] H locs := hw
  refine k_putF (ci := 8) (v := .ref q10) (ty := .object "OccupancyMonitor$EventLog") (C := RX8) (T := TX8) (N := 9) (bs1 := [[(h0, .inr (8, [.ref q1, .ref q4, .ref q7, .ref q10, .int (0 : Int32), .int (0 : Int32), .int (0 : Int32), .int (0 : Int32), .int (0 : Int32)]))], w7 cA (q1, x3) o2, w5 cA (q4, x6) o5, w1 cA (q7, x9) o8, w2 cA (q10, x12) o11]) hx hb hts hown hz hw (by decide +kernel) tyX8 tyX8_ok nmX8 0 rfl rfl 3 (by decide) (hts (.fieldLink RX8 35 "OccupancyMonitor$State" "log" "LOccupancyMonitor$EventLog;") (by decide +kernel)) (fun _ h9 => h9) rfl hnm rfl (by decide +kernel) rfl rfl (Nat.le_of_ble_eq_true rfl) dX8_init_45 rfl (fun H locs hw => ?_)
  refine lv_aload_n hx hb dX8_init_48 rfl (lv_at hl 0 rfl) ?_
  refine lv_bipush (v := 10) hx hb dX8_init_49 (by decide) ?_
  refine k_put (ci := 8) (v := .int (10 : Int32)) (ty := .int) (C := RX8) (T := TX8) (N := 9) (bs1 := [[(h0, .inr (8, [.ref q1, .ref q4, .ref q7, .ref q10, .int (0 : Int32), .int (10 : Int32), .int (0 : Int32), .int (0 : Int32), .int (0 : Int32)]))], w7 cA (q1, x3) o2, w5 cA (q4, x6) o5, w1 cA (q7, x9) o8, w2 cA (q10, x12) o11]) hx hb hts hown hz hw (by decide +kernel) tyX8 tyX8_ok nmX8 0 rfl rfl 5 (by decide) (hts (.fieldLink RX8 39 "OccupancyMonitor$State" "floor" "I") (by decide +kernel)) (fun _ h9 => h9) rfl (by decide +kernel) rfl rfl (Nat.le_of_ble_eq_true rfl) dX8_init_51 rfl (fun H locs hw => ?_)
  refine lv_aload_n hx hb dX8_init_54 rfl (lv_at hl 0 rfl) ?_
  refine lv_bipush (v := 30) hx hb dX8_init_55 (by decide) ?_
  refine k_put (ci := 8) (v := .int (30 : Int32)) (ty := .int) (C := RX8) (T := TX8) (N := 9) (bs1 := [[(h0, .inr (8, [.ref q1, .ref q4, .ref q7, .ref q10, .int (0 : Int32), .int (10 : Int32), .int (30 : Int32), .int (0 : Int32), .int (0 : Int32)]))], w7 cA (q1, x3) o2, w5 cA (q4, x6) o5, w1 cA (q7, x9) o8, w2 cA (q10, x12) o11]) hx hb hts hown hz hw (by decide +kernel) tyX8 tyX8_ok nmX8 0 rfl rfl 6 (by decide) (hts (.fieldLink RX8 43 "OccupancyMonitor$State" "threshold" "I") (by decide +kernel)) (fun _ h9 => h9) rfl (by decide +kernel) rfl rfl (Nat.le_of_ble_eq_true rfl) dX8_init_57 rfl (fun H locs hw => ?_)
  refine lv_aload_n hx hb dX8_init_60 rfl (lv_at hl 0 rfl) ?_
  refine lv_bipush (v := 10) hx hb dX8_init_61 (by decide) ?_
  refine k_put (ci := 8) (v := .int (10 : Int32)) (ty := .int) (C := RX8) (T := TX8) (N := 9) (bs1 := [[(h0, .inr (8, [.ref q1, .ref q4, .ref q7, .ref q10, .int (0 : Int32), .int (10 : Int32), .int (30 : Int32), .int (10 : Int32), .int (0 : Int32)]))], w7 cA (q1, x3) o2, w5 cA (q4, x6) o5, w1 cA (q7, x9) o8, w2 cA (q10, x12) o11]) hx hb hts hown hz hw (by decide +kernel) tyX8 tyX8_ok nmX8 0 rfl rfl 7 (by decide) (hts (.fieldLink RX8 46 "OccupancyMonitor$State" "gap" "I") (by decide +kernel)) (fun _ h9 => h9) rfl (by decide +kernel) rfl rfl (Nat.le_of_ble_eq_true rfl) dX8_init_63 rfl (fun H locs hw => ?_)
  refine lv_aload_n hx hb dX8_init_66 rfl (lv_at hl 0 rfl) ?_
  refine lv_iconst (v := 5) hx hb dX8_init_67 (by decide) ?_
  refine k_put (ci := 8) (v := .int (5 : Int32)) (ty := .int) (C := RX8) (T := TX8) (N := 9) (bs1 := [[(h0, .inr (8, [.ref q1, .ref q4, .ref q7, .ref q10, .int (0 : Int32), .int (10 : Int32), .int (30 : Int32), .int (10 : Int32), .int (5 : Int32)]))], w7 cA (q1, x3) o2, w5 cA (q4, x6) o5, w1 cA (q7, x9) o8, w2 cA (q10, x12) o11]) hx hb hts hown hz hw (by decide +kernel) tyX8 tyX8_ok nmX8 0 rfl rfl 8 (by decide) (hts (.fieldLink RX8 49 "OccupancyMonitor$State" "tolerance" "I") (by decide +kernel)) (fun _ h9 => h9) rfl (by decide +kernel) rfl rfl (Nat.le_of_ble_eq_true rfl) dX8_init_68 rfl (fun H locs hw => ?_)
  have hsp := Option.some.inj hsp
  subst hsp
  have hw : ww A s.heap D [w8 cA (h0, (q1, x3), (q4, x6), (q7, x9), (q10, x12)) (o2, o5, o8, o11, (0 : Int32), (10 : Int32), (30 : Int32), (10 : Int32), (5 : Int32))] H locs := hw
  subst hQ
  exact k_vretE ((q1, x3), (q4, x6), (q7, x9), (q10, x12)) hx hb hr hlk hw dX8_init_71
noncomputable def sX3_init (N : Nat) : Option (V3) := ((sX8_init N).bind (fun o4 => ((sX8_init N).bind (fun o8 => ((sX8_init N).bind (fun o12 => ((sX8_init N).bind (fun o16 => (some (o4, o8, o12, o16, (0 : Int32), (0 : Int32)))))))))))
abbrev rX3_init : Room := { frames := 5, cells := 81, slots := 3552, locals := 105 }
set_option maxHeartbeats 4000000 in
set_option maxRecDepth 100000 in
theorem mX3_init (l : Launch) (D : va_G) (cA cR : ClassId) (N : Nat) (h0 : Nat) (o : V3) (hsp : sX3_init N  = some o) : ME l yX3_init wsX3_init rX3_init D cA cR [.ref h0] [[(h0, .inr (3, [.null, .int 0, .int 0]))]] (fun x : Nat × A8 × A8 × A8 × A8 => [w3 cA cR (h0, x) o]) 81 3552 := by
  have hsp : ((sX8_init N).bind (fun o4 => ((sX8_init N).bind (fun o8 => ((sX8_init N).bind (fun o12 => ((sX8_init N).bind (fun o16 => (some (o4, o8, o12, o16, (0 : Int32), (0 : Int32))))))))))) = some o := hsp
  refine ME.ofW (cc := cX3_init) (maxL := 2) (ret := none) (by decide) rfl (Nat.le_of_ble_eq_true rfl) ?_
  intro p e s m args below meth c A ls Q H locs hx hb hr hlk hml hown hnm hts hz hO hA hQ hw hl
  have hl : lv_has ls 2 [(0, .ref h0)] := hl
  have hw : ww A s.heap D [[(h0, .inr (3, [.null, .int (0 : Int32), .int (0 : Int32)]))]] H locs := hw
  refine lv_aload_n hx hb dX3_init_0 rfl (lv_at hl 0 rfl) ?_
  refine W.objInit hx hb hown (hts (.methodLink RX3 3 objectInit) (by decide +kernel)) (hts (.instanceMethod objectInit) (by decide +kernel)) (hts (.code objectInit ⟨#[0xb1]⟩ 1 none) (by decide +kernel)) rfl (by rw [hml]; exact hl.1) rfl dX3_init_1 (Nat.le_of_ble_eq_true rfl) (Nat.le_of_ble_eq_true rfl) ?_
  refine W.eq (g2 := F0 m 4 ls []) rfl ?_
  refine lv_aload_n hx hb dX3_init_4 rfl (lv_at hl 0 rfl) ?_
  refine lv_iconst (v := 4) hx hb dX3_init_5 (by decide) ?_
  refine k_newq (N' := 4) hx hb hts hown hz hO hw hA (by decide +kernel) (by decide) (by decide) (Nat.le_of_ble_eq_true rfl) (Nat.le_of_ble_eq_true rfl) (Nat.le_of_ble_eq_true rfl) dX3_init_6 (fun q1 H hw => ?_)
  have hw : ww A s.heap D [[(h0, .inr (3, [.null, .int (0 : Int32), .int (0 : Int32)]))], [(q1, .inl (cR, 4, .inr (.inr (.inr (.inr (fun _ => none))))))]] H locs := hw
  refine k_putF (ci := 3) (v := .ref q1) (ty := .array (.object "OccupancyMonitor$State")) (C := RX3) (T := TX3) (N := 3) (bs1 := [[(h0, .inr (3, [.ref q1, .int (0 : Int32), .int (0 : Int32)]))], [(q1, .inl (cR, 4, .inr (.inr (.inr (.inr (fun _ => none))))))]]) hx hb hts hown hz hw (by decide +kernel) tyX3 tyX3_ok nmX3 0 rfl rfl 0 (by decide) (hts (.fieldLink RX3 11 "OccupancyMonitor$History" "ring" "[LOccupancyMonitor$State;") (by decide +kernel)) (fun _ h9 => h9) rfl hnm rfl (by decide +kernel) rfl rfl (Nat.le_of_ble_eq_true rfl) dX3_init_9 rfl (fun H locs hw => ?_)
  refine lv_iconst (v := 0) hx hb dX3_init_12 (by decide) ?_
  refine lv_istore_n (lv' := [(1, .int (0 : Int32)), (0, .ref h0)]) hx hb dX3_init_13 rfl hl (by decide) rfl (fun ls hl => ?_)
  refine lv_iload_n hx hb dX3_init_14 rfl (lv_at hl 0 rfl) ?_
  refine lv_aload_n hx hb dX3_init_15 rfl (lv_at hl 1 rfl) ?_
  refine k_get (ci := 3) (v := .ref q1) (C := RX3) (T := TX3) (N := 3) hx hb hts hown hz hw (by decide +kernel) 0 rfl rfl 0 (by decide) (hts (.fieldLink RX3 11 "OccupancyMonitor$History" "ring" "[LOccupancyMonitor$State;") (by decide +kernel)) (fun _ h9 => h9) rfl dX3_init_16 ?_
  refine k_alenq hx hb hz hw 1 rfl dX3_init_19 ?_
  refine W.eq (g2 := F0 m 20 ls [.int (4 : Int32), .int (0 : Int32)]) rfl ?_
  refine lv_icmp_ge (tgt := 42) hx hb dX3_init_20 (by decide) (fun c2 => absurd c2 (by decide)) (fun _ => ?_)
  refine lv_aload_n hx hb dX3_init_23 rfl (lv_at hl 1 rfl) ?_
  refine k_get (ci := 3) (v := .ref q1) (C := RX3) (T := TX3) (N := 3) hx hb hts hown hz hw (by decide +kernel) 0 rfl rfl 0 (by decide) (hts (.fieldLink RX3 11 "OccupancyMonitor$History" "ring" "[LOccupancyMonitor$State;") (by decide +kernel)) (fun _ h9 => h9) rfl dX3_init_24 ?_
  refine lv_iload_n hx hb dX3_init_27 rfl (lv_at hl 0 rfl) ?_
  refine k_new (bs1 := []) (ci := 8) (C := RX8) (T := TX8) (N := 9) (fs := [.null, .null, .null, .null, .int 0, .int 0, .int 0, .int 0, .int 0]) hx hb hts hown hz hw hA (by decide +kernel) tyX8 tyX8_ok (by decide +kernel) (by decide +kernel) (by decide +kernel) rfl (fun j hj => by rcases (show j = 0 ∨ j = 1 ∨ j = 2 ∨ j = 3 ∨ j = 4 ∨ j = 5 ∨ j = 6 ∨ j = 7 ∨ j = 8 by omega) with rfl | rfl | rfl | rfl | rfl | rfl | rfl | rfl | rfl <;> rfl) (Nat.le_of_ble_eq_true rfl) (Nat.le_of_ble_eq_true rfl) dX3_init_28 (fun q3 H hw => ?_)
  have hw : ww A s.heap D [[(h0, .inr (3, [.ref q1, .int (0 : Int32), .int (0 : Int32)]))], [(q1, .inl (cR, 4, .inr (.inr (.inr (.inr (fun _ => none))))))], [(q3, .inr (8, [.null, .null, .null, .null, .int 0, .int 0, .int 0, .int 0, .int 0]))]] H locs := hw
  refine lv_dup hx hb dX3_init_31 rfl ?_
  obtain ⟨o4, hso4, hsp⟩ := bnd_of hsp
  refine k_callE (S := A7 × A5 × A1 × A2) (cs := [[(q3, .inr (8, [.null, .null, .null, .null, .int 0, .int 0, .int 0, .int 0, .int 0]))]]) (rs := [[(h0, .inr (3, [.ref q1, .int (0 : Int32), .int (0 : Int32)]))], [(q1, .inl (cR, 4, .inr (.inr (.inr (.inr (fun _ => none))))))]]) (cs1 := fun x => [w8 cA (q3, x) o4]) (bs1 := fun x => [[(h0, .inr (3, [.ref q1, .int (0 : Int32), .int (0 : Int32)]))], [(q1, .inl (cR, 4, .inr (.inr (.inr (.inr (fun _ => none))))))], w8 cA (q3, x) o4]) (rest := [.ref q3, .int (0 : Int32), .ref q1]) hw hA [2] [0, 1] [0, 1, 2] rfl rfl rfl (fun _ => rfl) rfl (k_runINE (host := "OccupancyMonitor") (nA := 0) (As := []) (b := q3) (cs := [[(q3, .inr (8, [.null, .null, .null, .null, .int 0, .int 0, .int 0, .int 0, .int 0]))]]) (rs := [[(h0, .inr (3, [.ref q1, .int (0 : Int32), .int (0 : Int32)]))], [(q1, .inl (cR, 4, .inr (.inr (.inr (.inr (fun _ => none))))))]]) (rest := [.ref q3, .int (0 : Int32), .ref q1]) ⟨hx, hb, hml, hown, hts⟩ hz hO hw hA (mX8_init l D cA cR N q3 o4 hso4) gX3_init_X8_init_n17 rfl rfl rfl (by decide +kernel) (by decide +kernel) (by decide +kernel) rfl (by decide +kernel) rfl ⟨Nat.le_of_ble_eq_true rfl, Nat.le_of_ble_eq_true rfl⟩ hl.1 rfl (Nat.le_of_ble_eq_true rfl) dX3_init_32 ⟨Nat.le_of_ble_eq_true rfl, Nat.le_of_ble_eq_true rfl⟩ [2] [0, 1] rfl rfl rfl) rfl (fun x5 H locs hw => ?_)
  have hw : ww A s.heap D [[(h0, .inr (3, [.ref q1, .int (0 : Int32), .int (0 : Int32)]))], [(q1, .inl (cR, 4, .inr (.inr (.inr (.inr (fun _ => none))))))], w8 cA (q3, x5) o4] H locs := hw
  refine k_astq (bs1 := [[(h0, .inr (3, [.ref q1, .int (0 : Int32), .int (0 : Int32)]))], [(q1, .inl (cR, 4, .inr (.inr (.inr (.inr (va_up (fun _ => none) 0 (some q3)))))))], w8 cA (q3, x5) o4]) hx hb hz hw 1 2 rfl rfl (by unfold vp_in; decide) dX3_init_35 rfl (fun H locs hw => ?_)
  refine lv_iinc (v := (1 : Int32)) (lv' := [(1, .int (1 : Int32)), (0, .ref h0)]) hx hb dX3_init_36 hl (k := 0) rfl (by decide) (by decide) rfl (fun ls hl => ?_)
  refine lv_goto (tgt := 14) hx hb dX3_init_39 (by decide) ?_
  refine lv_iload_n hx hb dX3_init_14 rfl (lv_at hl 0 rfl) ?_
  refine lv_aload_n hx hb dX3_init_15 rfl (lv_at hl 1 rfl) ?_
  refine k_get (ci := 3) (v := .ref q1) (C := RX3) (T := TX3) (N := 3) hx hb hts hown hz hw (by decide +kernel) 0 rfl rfl 0 (by decide) (hts (.fieldLink RX3 11 "OccupancyMonitor$History" "ring" "[LOccupancyMonitor$State;") (by decide +kernel)) (fun _ h9 => h9) rfl dX3_init_16 ?_
  refine k_alenq hx hb hz hw 1 rfl dX3_init_19 ?_
  refine W.eq (g2 := F0 m 20 ls [.int (4 : Int32), .int (1 : Int32)]) rfl ?_
  refine lv_icmp_ge (tgt := 42) hx hb dX3_init_20 (by decide) (fun c6 => absurd c6 (by decide)) (fun _ => ?_)
  refine lv_aload_n hx hb dX3_init_23 rfl (lv_at hl 1 rfl) ?_
  refine k_get (ci := 3) (v := .ref q1) (C := RX3) (T := TX3) (N := 3) hx hb hts hown hz hw (by decide +kernel) 0 rfl rfl 0 (by decide) (hts (.fieldLink RX3 11 "OccupancyMonitor$History" "ring" "[LOccupancyMonitor$State;") (by decide +kernel)) (fun _ h9 => h9) rfl dX3_init_24 ?_
  refine lv_iload_n hx hb dX3_init_27 rfl (lv_at hl 0 rfl) ?_
  refine k_new (bs1 := []) (ci := 8) (C := RX8) (T := TX8) (N := 9) (fs := [.null, .null, .null, .null, .int 0, .int 0, .int 0, .int 0, .int 0]) hx hb hts hown hz hw hA (by decide +kernel) tyX8 tyX8_ok (by decide +kernel) (by decide +kernel) (by decide +kernel) rfl (fun j hj => by rcases (show j = 0 ∨ j = 1 ∨ j = 2 ∨ j = 3 ∨ j = 4 ∨ j = 5 ∨ j = 6 ∨ j = 7 ∨ j = 8 by omega) with rfl | rfl | rfl | rfl | rfl | rfl | rfl | rfl | rfl <;> rfl) (Nat.le_of_ble_eq_true rfl) (Nat.le_of_ble_eq_true rfl) dX3_init_28 (fun q7 H hw => ?_)
  have hw : ww A s.heap D [[(h0, .inr (3, [.ref q1, .int (0 : Int32), .int (0 : Int32)]))], [(q1, .inl (cR, 4, .inr (.inr (.inr (.inr (va_up (fun _ => none) 0 (some q3)))))))], w8 cA (q3, x5) o4, [(q7, .inr (8, [.null, .null, .null, .null, .int 0, .int 0, .int 0, .int 0, .int 0]))]] H locs := hw
  refine lv_dup hx hb dX3_init_31 rfl ?_
  obtain ⟨o8, hso8, hsp⟩ := bnd_of hsp
  refine k_callE (S := A7 × A5 × A1 × A2) (cs := [[(q7, .inr (8, [.null, .null, .null, .null, .int 0, .int 0, .int 0, .int 0, .int 0]))]]) (rs := [[(h0, .inr (3, [.ref q1, .int (0 : Int32), .int (0 : Int32)]))], [(q1, .inl (cR, 4, .inr (.inr (.inr (.inr (va_up (fun _ => none) 0 (some q3)))))))], w8 cA (q3, x5) o4]) (cs1 := fun x => [w8 cA (q7, x) o8]) (bs1 := fun x => [[(h0, .inr (3, [.ref q1, .int (0 : Int32), .int (0 : Int32)]))], [(q1, .inl (cR, 4, .inr (.inr (.inr (.inr (va_up (fun _ => none) 0 (some q3)))))))], w8 cA (q3, x5) o4, w8 cA (q7, x) o8]) (rest := [.ref q7, .int (1 : Int32), .ref q1]) hw hA [3] [0, 1, 2] [0, 1, 2, 3] rfl rfl rfl (fun _ => rfl) rfl (k_runINE (host := "OccupancyMonitor") (nA := 0) (As := []) (b := q7) (cs := [[(q7, .inr (8, [.null, .null, .null, .null, .int 0, .int 0, .int 0, .int 0, .int 0]))]]) (rs := [[(h0, .inr (3, [.ref q1, .int (0 : Int32), .int (0 : Int32)]))], [(q1, .inl (cR, 4, .inr (.inr (.inr (.inr (va_up (fun _ => none) 0 (some q3)))))))], w8 cA (q3, x5) o4]) (rest := [.ref q7, .int (1 : Int32), .ref q1]) ⟨hx, hb, hml, hown, hts⟩ hz hO hw hA (mX8_init l D cA cR N q7 o8 hso8) gX3_init_X8_init_n17 rfl rfl rfl (by decide +kernel) (by decide +kernel) (by decide +kernel) rfl (by decide +kernel) rfl ⟨Nat.le_of_ble_eq_true rfl, Nat.le_of_ble_eq_true rfl⟩ hl.1 rfl (Nat.le_of_ble_eq_true rfl) dX3_init_32 ⟨Nat.le_of_ble_eq_true rfl, Nat.le_of_ble_eq_true rfl⟩ [3] [0, 1, 2] rfl rfl rfl) rfl (fun x9 H locs hw => ?_)
  have hw : ww A s.heap D [[(h0, .inr (3, [.ref q1, .int (0 : Int32), .int (0 : Int32)]))], [(q1, .inl (cR, 4, .inr (.inr (.inr (.inr (va_up (fun _ => none) 0 (some q3)))))))], w8 cA (q3, x5) o4, w8 cA (q7, x9) o8] H locs := hw
  refine k_astq (bs1 := [[(h0, .inr (3, [.ref q1, .int (0 : Int32), .int (0 : Int32)]))], [(q1, .inl (cR, 4, .inr (.inr (.inr (.inr (va_up (va_up (fun _ => none) 0 (some q3)) 1 (some q7)))))))], w8 cA (q3, x5) o4, w8 cA (q7, x9) o8]) hx hb hz hw 1 3 rfl rfl (by unfold vp_in; decide) dX3_init_35 rfl (fun H locs hw => ?_)
  refine lv_iinc (v := (2 : Int32)) (lv' := [(1, .int (2 : Int32)), (0, .ref h0)]) hx hb dX3_init_36 hl (k := 0) rfl (by decide) (by decide) rfl (fun ls hl => ?_)
  refine lv_goto (tgt := 14) hx hb dX3_init_39 (by decide) ?_
  refine lv_iload_n hx hb dX3_init_14 rfl (lv_at hl 0 rfl) ?_
  refine lv_aload_n hx hb dX3_init_15 rfl (lv_at hl 1 rfl) ?_
  refine k_get (ci := 3) (v := .ref q1) (C := RX3) (T := TX3) (N := 3) hx hb hts hown hz hw (by decide +kernel) 0 rfl rfl 0 (by decide) (hts (.fieldLink RX3 11 "OccupancyMonitor$History" "ring" "[LOccupancyMonitor$State;") (by decide +kernel)) (fun _ h9 => h9) rfl dX3_init_16 ?_
  refine k_alenq hx hb hz hw 1 rfl dX3_init_19 ?_
  refine W.eq (g2 := F0 m 20 ls [.int (4 : Int32), .int (2 : Int32)]) rfl ?_
  refine lv_icmp_ge (tgt := 42) hx hb dX3_init_20 (by decide) (fun c10 => absurd c10 (by decide)) (fun _ => ?_)
  refine lv_aload_n hx hb dX3_init_23 rfl (lv_at hl 1 rfl) ?_
  refine k_get (ci := 3) (v := .ref q1) (C := RX3) (T := TX3) (N := 3) hx hb hts hown hz hw (by decide +kernel) 0 rfl rfl 0 (by decide) (hts (.fieldLink RX3 11 "OccupancyMonitor$History" "ring" "[LOccupancyMonitor$State;") (by decide +kernel)) (fun _ h9 => h9) rfl dX3_init_24 ?_
  refine lv_iload_n hx hb dX3_init_27 rfl (lv_at hl 0 rfl) ?_
  refine k_new (bs1 := []) (ci := 8) (C := RX8) (T := TX8) (N := 9) (fs := [.null, .null, .null, .null, .int 0, .int 0, .int 0, .int 0, .int 0]) hx hb hts hown hz hw hA (by decide +kernel) tyX8 tyX8_ok (by decide +kernel) (by decide +kernel) (by decide +kernel) rfl (fun j hj => by rcases (show j = 0 ∨ j = 1 ∨ j = 2 ∨ j = 3 ∨ j = 4 ∨ j = 5 ∨ j = 6 ∨ j = 7 ∨ j = 8 by omega) with rfl | rfl | rfl | rfl | rfl | rfl | rfl | rfl | rfl <;> rfl) (Nat.le_of_ble_eq_true rfl) (Nat.le_of_ble_eq_true rfl) dX3_init_28 (fun q11 H hw => ?_)
  have hw : ww A s.heap D [[(h0, .inr (3, [.ref q1, .int (0 : Int32), .int (0 : Int32)]))], [(q1, .inl (cR, 4, .inr (.inr (.inr (.inr (va_up (va_up (fun _ => none) 0 (some q3)) 1 (some q7)))))))], w8 cA (q3, x5) o4, w8 cA (q7, x9) o8, [(q11, .inr (8, [.null, .null, .null, .null, .int 0, .int 0, .int 0, .int 0, .int 0]))]] H locs := hw
  refine lv_dup hx hb dX3_init_31 rfl ?_
  obtain ⟨o12, hso12, hsp⟩ := bnd_of hsp
  refine k_callE (S := A7 × A5 × A1 × A2) (cs := [[(q11, .inr (8, [.null, .null, .null, .null, .int 0, .int 0, .int 0, .int 0, .int 0]))]]) (rs := [[(h0, .inr (3, [.ref q1, .int (0 : Int32), .int (0 : Int32)]))], [(q1, .inl (cR, 4, .inr (.inr (.inr (.inr (va_up (va_up (fun _ => none) 0 (some q3)) 1 (some q7)))))))], w8 cA (q3, x5) o4, w8 cA (q7, x9) o8]) (cs1 := fun x => [w8 cA (q11, x) o12]) (bs1 := fun x => [[(h0, .inr (3, [.ref q1, .int (0 : Int32), .int (0 : Int32)]))], [(q1, .inl (cR, 4, .inr (.inr (.inr (.inr (va_up (va_up (fun _ => none) 0 (some q3)) 1 (some q7)))))))], w8 cA (q3, x5) o4, w8 cA (q7, x9) o8, w8 cA (q11, x) o12]) (rest := [.ref q11, .int (2 : Int32), .ref q1]) hw hA [4] [0, 1, 2, 3] [0, 1, 2, 3, 4] rfl rfl rfl (fun _ => rfl) rfl (k_runINE (host := "OccupancyMonitor") (nA := 0) (As := []) (b := q11) (cs := [[(q11, .inr (8, [.null, .null, .null, .null, .int 0, .int 0, .int 0, .int 0, .int 0]))]]) (rs := [[(h0, .inr (3, [.ref q1, .int (0 : Int32), .int (0 : Int32)]))], [(q1, .inl (cR, 4, .inr (.inr (.inr (.inr (va_up (va_up (fun _ => none) 0 (some q3)) 1 (some q7)))))))], w8 cA (q3, x5) o4, w8 cA (q7, x9) o8]) (rest := [.ref q11, .int (2 : Int32), .ref q1]) ⟨hx, hb, hml, hown, hts⟩ hz hO hw hA (mX8_init l D cA cR N q11 o12 hso12) gX3_init_X8_init_n17 rfl rfl rfl (by decide +kernel) (by decide +kernel) (by decide +kernel) rfl (by decide +kernel) rfl ⟨Nat.le_of_ble_eq_true rfl, Nat.le_of_ble_eq_true rfl⟩ hl.1 rfl (Nat.le_of_ble_eq_true rfl) dX3_init_32 ⟨Nat.le_of_ble_eq_true rfl, Nat.le_of_ble_eq_true rfl⟩ [4] [0, 1, 2, 3] rfl rfl rfl) rfl (fun x13 H locs hw => ?_)
  have hw : ww A s.heap D [[(h0, .inr (3, [.ref q1, .int (0 : Int32), .int (0 : Int32)]))], [(q1, .inl (cR, 4, .inr (.inr (.inr (.inr (va_up (va_up (fun _ => none) 0 (some q3)) 1 (some q7)))))))], w8 cA (q3, x5) o4, w8 cA (q7, x9) o8, w8 cA (q11, x13) o12] H locs := hw
  refine k_astq (bs1 := [[(h0, .inr (3, [.ref q1, .int (0 : Int32), .int (0 : Int32)]))], [(q1, .inl (cR, 4, .inr (.inr (.inr (.inr (va_up (va_up (va_up (fun _ => none) 0 (some q3)) 1 (some q7)) 2 (some q11)))))))], w8 cA (q3, x5) o4, w8 cA (q7, x9) o8, w8 cA (q11, x13) o12]) hx hb hz hw 1 4 rfl rfl (by unfold vp_in; decide) dX3_init_35 rfl (fun H locs hw => ?_)
  refine lv_iinc (v := (3 : Int32)) (lv' := [(1, .int (3 : Int32)), (0, .ref h0)]) hx hb dX3_init_36 hl (k := 0) rfl (by decide) (by decide) rfl (fun ls hl => ?_)
  refine lv_goto (tgt := 14) hx hb dX3_init_39 (by decide) ?_
  refine lv_iload_n hx hb dX3_init_14 rfl (lv_at hl 0 rfl) ?_
  refine lv_aload_n hx hb dX3_init_15 rfl (lv_at hl 1 rfl) ?_
  refine k_get (ci := 3) (v := .ref q1) (C := RX3) (T := TX3) (N := 3) hx hb hts hown hz hw (by decide +kernel) 0 rfl rfl 0 (by decide) (hts (.fieldLink RX3 11 "OccupancyMonitor$History" "ring" "[LOccupancyMonitor$State;") (by decide +kernel)) (fun _ h9 => h9) rfl dX3_init_16 ?_
  refine k_alenq hx hb hz hw 1 rfl dX3_init_19 ?_
  refine W.eq (g2 := F0 m 20 ls [.int (4 : Int32), .int (3 : Int32)]) rfl ?_
  refine lv_icmp_ge (tgt := 42) hx hb dX3_init_20 (by decide) (fun c14 => absurd c14 (by decide)) (fun _ => ?_)
  refine lv_aload_n hx hb dX3_init_23 rfl (lv_at hl 1 rfl) ?_
  refine k_get (ci := 3) (v := .ref q1) (C := RX3) (T := TX3) (N := 3) hx hb hts hown hz hw (by decide +kernel) 0 rfl rfl 0 (by decide) (hts (.fieldLink RX3 11 "OccupancyMonitor$History" "ring" "[LOccupancyMonitor$State;") (by decide +kernel)) (fun _ h9 => h9) rfl dX3_init_24 ?_
  refine lv_iload_n hx hb dX3_init_27 rfl (lv_at hl 0 rfl) ?_
  refine k_new (bs1 := []) (ci := 8) (C := RX8) (T := TX8) (N := 9) (fs := [.null, .null, .null, .null, .int 0, .int 0, .int 0, .int 0, .int 0]) hx hb hts hown hz hw hA (by decide +kernel) tyX8 tyX8_ok (by decide +kernel) (by decide +kernel) (by decide +kernel) rfl (fun j hj => by rcases (show j = 0 ∨ j = 1 ∨ j = 2 ∨ j = 3 ∨ j = 4 ∨ j = 5 ∨ j = 6 ∨ j = 7 ∨ j = 8 by omega) with rfl | rfl | rfl | rfl | rfl | rfl | rfl | rfl | rfl <;> rfl) (Nat.le_of_ble_eq_true rfl) (Nat.le_of_ble_eq_true rfl) dX3_init_28 (fun q15 H hw => ?_)
  have hw : ww A s.heap D [[(h0, .inr (3, [.ref q1, .int (0 : Int32), .int (0 : Int32)]))], [(q1, .inl (cR, 4, .inr (.inr (.inr (.inr (va_up (va_up (va_up (fun _ => none) 0 (some q3)) 1 (some q7)) 2 (some q11)))))))], w8 cA (q3, x5) o4, w8 cA (q7, x9) o8, w8 cA (q11, x13) o12, [(q15, .inr (8, [.null, .null, .null, .null, .int 0, .int 0, .int 0, .int 0, .int 0]))]] H locs := hw
  refine lv_dup hx hb dX3_init_31 rfl ?_
  obtain ⟨o16, hso16, hsp⟩ := bnd_of hsp
  refine k_callE (S := A7 × A5 × A1 × A2) (cs := [[(q15, .inr (8, [.null, .null, .null, .null, .int 0, .int 0, .int 0, .int 0, .int 0]))]]) (rs := [[(h0, .inr (3, [.ref q1, .int (0 : Int32), .int (0 : Int32)]))], [(q1, .inl (cR, 4, .inr (.inr (.inr (.inr (va_up (va_up (va_up (fun _ => none) 0 (some q3)) 1 (some q7)) 2 (some q11)))))))], w8 cA (q3, x5) o4, w8 cA (q7, x9) o8, w8 cA (q11, x13) o12]) (cs1 := fun x => [w8 cA (q15, x) o16]) (bs1 := fun x => [[(h0, .inr (3, [.ref q1, .int (0 : Int32), .int (0 : Int32)]))], [(q1, .inl (cR, 4, .inr (.inr (.inr (.inr (va_up (va_up (va_up (fun _ => none) 0 (some q3)) 1 (some q7)) 2 (some q11)))))))], w8 cA (q3, x5) o4, w8 cA (q7, x9) o8, w8 cA (q11, x13) o12, w8 cA (q15, x) o16]) (rest := [.ref q15, .int (3 : Int32), .ref q1]) hw hA [5] [0, 1, 2, 3, 4] [0, 1, 2, 3, 4, 5] rfl rfl rfl (fun _ => rfl) rfl (k_runINE (host := "OccupancyMonitor") (nA := 0) (As := []) (b := q15) (cs := [[(q15, .inr (8, [.null, .null, .null, .null, .int 0, .int 0, .int 0, .int 0, .int 0]))]]) (rs := [[(h0, .inr (3, [.ref q1, .int (0 : Int32), .int (0 : Int32)]))], [(q1, .inl (cR, 4, .inr (.inr (.inr (.inr (va_up (va_up (va_up (fun _ => none) 0 (some q3)) 1 (some q7)) 2 (some q11)))))))], w8 cA (q3, x5) o4, w8 cA (q7, x9) o8, w8 cA (q11, x13) o12]) (rest := [.ref q15, .int (3 : Int32), .ref q1]) ⟨hx, hb, hml, hown, hts⟩ hz hO hw hA (mX8_init l D cA cR N q15 o16 hso16) gX3_init_X8_init_n17 rfl rfl rfl (by decide +kernel) (by decide +kernel) (by decide +kernel) rfl (by decide +kernel) rfl ⟨Nat.le_of_ble_eq_true rfl, Nat.le_of_ble_eq_true rfl⟩ hl.1 rfl (Nat.le_of_ble_eq_true rfl) dX3_init_32 ⟨Nat.le_of_ble_eq_true rfl, Nat.le_of_ble_eq_true rfl⟩ [5] [0, 1, 2, 3, 4] rfl rfl rfl) rfl (fun x17 H locs hw => ?_)
  have hw : ww A s.heap D [[(h0, .inr (3, [.ref q1, .int (0 : Int32), .int (0 : Int32)]))], [(q1, .inl (cR, 4, .inr (.inr (.inr (.inr (va_up (va_up (va_up (fun _ => none) 0 (some q3)) 1 (some q7)) 2 (some q11)))))))], w8 cA (q3, x5) o4, w8 cA (q7, x9) o8, w8 cA (q11, x13) o12, w8 cA (q15, x17) o16] H locs := hw
  refine k_astq (bs1 := [[(h0, .inr (3, [.ref q1, .int (0 : Int32), .int (0 : Int32)]))], [(q1, .inl (cR, 4, .inr (.inr (.inr (.inr (va_up (va_up (va_up (va_up (fun _ => none) 0 (some q3)) 1 (some q7)) 2 (some q11)) 3 (some q15)))))))], w8 cA (q3, x5) o4, w8 cA (q7, x9) o8, w8 cA (q11, x13) o12, w8 cA (q15, x17) o16]) hx hb hz hw 1 5 rfl rfl (by unfold vp_in; decide) dX3_init_35 rfl (fun H locs hw => ?_)
  refine lv_iinc (v := (4 : Int32)) (lv' := [(1, .int (4 : Int32)), (0, .ref h0)]) hx hb dX3_init_36 hl (k := 0) rfl (by decide) (by decide) rfl (fun ls hl => ?_)
  refine lv_goto (tgt := 14) hx hb dX3_init_39 (by decide) ?_
  refine lv_iload_n hx hb dX3_init_14 rfl (lv_at hl 0 rfl) ?_
  refine lv_aload_n hx hb dX3_init_15 rfl (lv_at hl 1 rfl) ?_
  refine k_get (ci := 3) (v := .ref q1) (C := RX3) (T := TX3) (N := 3) hx hb hts hown hz hw (by decide +kernel) 0 rfl rfl 0 (by decide) (hts (.fieldLink RX3 11 "OccupancyMonitor$History" "ring" "[LOccupancyMonitor$State;") (by decide +kernel)) (fun _ h9 => h9) rfl dX3_init_16 ?_
  refine k_alenq hx hb hz hw 1 rfl dX3_init_19 ?_
  refine W.eq (g2 := F0 m 20 ls [.int (4 : Int32), .int (4 : Int32)]) rfl ?_
  refine lv_icmp_ge (tgt := 42) hx hb dX3_init_20 (by decide) (fun _ => ?_) (fun c18 => absurd c18 (by decide))
  have hsp := Option.some.inj hsp
  subst hsp
  have hw : ww A s.heap D [[(h0, .inr (3, [.ref q1, .int (0 : Int32), .int (0 : Int32)]))], [(q1, .inl (cR, 4, .inr (.inr (.inr (.inr (rg (h0, q1, (q3, x5), (q7, x9), (q11, x13), (q15, x17))))))))], w8 cA (q3, x5) o4, w8 cA (q7, x9) o8, w8 cA (q11, x13) o12, w8 cA (q15, x17) o16] H locs := by rw [← rg_up]; exact hw
  have hw : ww A s.heap D [w3 cA cR (h0, q1, (q3, x5), (q7, x9), (q11, x13), (q15, x17)) (o4, o8, o12, o16, (0 : Int32), (0 : Int32))] H locs := hw
  subst hQ
  exact k_vretE (q1, (q3, x5), (q7, x9), (q11, x13), (q15, x17)) hx hb hr hlk hw dX3_init_42
noncomputable def sX4_init  : Option (V4) := (some ((50, (fun _ => 0)), (50, (fun _ => 0)), (50, (fun _ => 0)), (0 : Int32)))
abbrev rX4_init : Room := { frames := 1, cells := 3, slots := 150, locals := 20 }
set_option maxHeartbeats 4000000 in
set_option maxRecDepth 100000 in
theorem mX4_init (l : Launch) (D : va_G) (cA cR : ClassId) (h0 : Nat) (o : V4) (hsp : sX4_init  = some o) : ME l yX4_init wsX4_init rX4_init D cA cR [.ref h0] [[(h0, .inr (4, [.null, .null, .null, .int 0]))]] (fun x : Nat × Nat × Nat => [w4 cA (h0, x) o]) 3 150 := by
  have hsp : (some ((50, (fun _ => 0)), (50, (fun _ => 0)), (50, (fun _ => 0)), (0 : Int32))) = some o := hsp
  refine ME.ofW (cc := cX4_init) (maxL := 1) (ret := none) (by decide) rfl (Nat.le_of_ble_eq_true rfl) ?_
  intro p e s m args below meth c A ls Q H locs hx hb hr hlk hml hown hnm hts hz hO hA hQ hw hl
  have hl : lv_has ls 1 [(0, .ref h0)] := hl
  have hw : ww A s.heap D [[(h0, .inr (4, [.null, .null, .null, .int (0 : Int32)]))]] H locs := hw
  refine lv_aload_n hx hb dX4_init_0 rfl (lv_at hl 0 rfl) ?_
  refine W.objInit hx hb hown (hts (.methodLink RX4 3 objectInit) (by decide +kernel)) (hts (.instanceMethod objectInit) (by decide +kernel)) (hts (.code objectInit ⟨#[0xb1]⟩ 1 none) (by decide +kernel)) rfl (by rw [hml]; exact hl.1) rfl dX4_init_1 (Nat.le_of_ble_eq_true rfl) (Nat.le_of_ble_eq_true rfl) ?_
  refine W.eq (g2 := F0 m 4 ls []) rfl ?_
  refine lv_aload_n hx hb dX4_init_4 rfl (lv_at hl 0 rfl) ?_
  refine lv_bipush (v := 50) hx hb dX4_init_5 (by decide) ?_
  refine k_newi (N' := 50) hx hb hts hz hw hA (by decide +kernel) (by decide) (by decide) (Nat.le_of_ble_eq_true rfl) (Nat.le_of_ble_eq_true rfl) (Nat.le_of_ble_eq_true rfl) dX4_init_7 (fun q1 H hw => ?_)
  have hw : ww A s.heap D [[(h0, .inr (4, [.null, .null, .null, .int (0 : Int32)]))], [(q1, .inl (cA, 50, .inl (fun _ => 0)))]] H locs := hw
  refine k_putF (ci := 4) (v := .ref q1) (ty := .array .int) (C := RX4) (T := TX4) (N := 4) (bs1 := [[(h0, .inr (4, [.ref q1, .null, .null, .int (0 : Int32)]))], [(q1, .inl (cA, 50, .inl (fun _ => 0)))]]) hx hb hts hown hz hw (by decide +kernel) tyX4 tyX4_ok nmX4 0 rfl rfl 0 (by decide) (hts (.fieldLink RX4 9 "OccupancyMonitor$HopChains" "predecessors" "[I") (by decide +kernel)) (fun _ h9 => h9) rfl hnm rfl (by decide +kernel) rfl rfl (Nat.le_of_ble_eq_true rfl) dX4_init_9 rfl (fun H locs hw => ?_)
  refine lv_aload_n hx hb dX4_init_12 rfl (lv_at hl 0 rfl) ?_
  refine lv_bipush (v := 50) hx hb dX4_init_13 (by decide) ?_
  refine k_newi (N' := 50) hx hb hts hz hw hA (by decide +kernel) (by decide) (by decide) (Nat.le_of_ble_eq_true rfl) (Nat.le_of_ble_eq_true rfl) (Nat.le_of_ble_eq_true rfl) dX4_init_15 (fun q2 H hw => ?_)
  have hw : ww A s.heap D [[(h0, .inr (4, [.ref q1, .null, .null, .int (0 : Int32)]))], [(q1, .inl (cA, 50, .inl (fun _ => 0)))], [(q2, .inl (cA, 50, .inl (fun _ => 0)))]] H locs := hw
  refine k_putF (ci := 4) (v := .ref q2) (ty := .array .int) (C := RX4) (T := TX4) (N := 4) (bs1 := [[(h0, .inr (4, [.ref q1, .ref q2, .null, .int (0 : Int32)]))], [(q1, .inl (cA, 50, .inl (fun _ => 0)))], [(q2, .inl (cA, 50, .inl (fun _ => 0)))]]) hx hb hts hown hz hw (by decide +kernel) tyX4 tyX4_ok nmX4 0 rfl rfl 1 (by decide) (hts (.fieldLink RX4 15 "OccupancyMonitor$HopChains" "successors" "[I") (by decide +kernel)) (fun _ h9 => h9) rfl hnm rfl (by decide +kernel) rfl rfl (Nat.le_of_ble_eq_true rfl) dX4_init_17 rfl (fun H locs hw => ?_)
  refine lv_aload_n hx hb dX4_init_20 rfl (lv_at hl 0 rfl) ?_
  refine lv_bipush (v := 50) hx hb dX4_init_21 (by decide) ?_
  refine k_newi (N' := 50) hx hb hts hz hw hA (by decide +kernel) (by decide) (by decide) (Nat.le_of_ble_eq_true rfl) (Nat.le_of_ble_eq_true rfl) (Nat.le_of_ble_eq_true rfl) dX4_init_23 (fun q3 H hw => ?_)
  have hw : ww A s.heap D [[(h0, .inr (4, [.ref q1, .ref q2, .null, .int (0 : Int32)]))], [(q1, .inl (cA, 50, .inl (fun _ => 0)))], [(q2, .inl (cA, 50, .inl (fun _ => 0)))], [(q3, .inl (cA, 50, .inl (fun _ => 0)))]] H locs := hw
  refine k_putF (ci := 4) (v := .ref q3) (ty := .array .int) (C := RX4) (T := TX4) (N := 4) (bs1 := [[(h0, .inr (4, [.ref q1, .ref q2, .ref q3, .int (0 : Int32)]))], [(q1, .inl (cA, 50, .inl (fun _ => 0)))], [(q2, .inl (cA, 50, .inl (fun _ => 0)))], [(q3, .inl (cA, 50, .inl (fun _ => 0)))]]) hx hb hts hown hz hw (by decide +kernel) tyX4 tyX4_ok nmX4 0 rfl rfl 2 (by decide) (hts (.fieldLink RX4 18 "OccupancyMonitor$HopChains" "firsts" "[I") (by decide +kernel)) (fun _ h9 => h9) rfl hnm rfl (by decide +kernel) rfl rfl (Nat.le_of_ble_eq_true rfl) dX4_init_25 rfl (fun H locs hw => ?_)
  have hsp := Option.some.inj hsp
  subst hsp
  have hw : ww A s.heap D [w4 cA (h0, q1, q2, q3) ((50, (fun _ => 0)), (50, (fun _ => 0)), (50, (fun _ => 0)), (0 : Int32))] H locs := hw
  subst hQ
  exact k_vretE (q1, q2, q3) hx hb hr hlk hw dX4_init_28
noncomputable def sX6_init  : Option (V6) := ((sX0_init_100 ).bind (fun o2 => ((sX5_init ).bind (fun o5 => (some (o2, o5, (0 : Int32), (0 : Int32)))))))
abbrev rX6_init : Room := { frames := 3, cells := 5, slots := 145, locals := 63 }
set_option maxHeartbeats 4000000 in
set_option maxRecDepth 100000 in
theorem mX6_init (l : Launch) (D : va_G) (cA cR : ClassId) (h0 : Nat) (o : V6) (hsp : sX6_init  = some o) : ME l yX6_init wsX6_init rX6_init D cA cR [.ref h0] [[(h0, .inr (6, [.null, .null, .int 0, .int 0]))]] (fun x : A0 × A5 => [w6 cA (h0, x) o]) 5 145 := by
  have hsp : ((sX0_init_100 ).bind (fun o2 => ((sX5_init ).bind (fun o5 => (some (o2, o5, (0 : Int32), (0 : Int32))))))) = some o := hsp
  refine ME.ofW (cc := cX6_init) (maxL := 1) (ret := none) (by decide) rfl (Nat.le_of_ble_eq_true rfl) ?_
  intro p e s m args below meth c A ls Q H locs hx hb hr hlk hml hown hnm hts hz hO hA hQ hw hl
  have hl : lv_has ls 1 [(0, .ref h0)] := hl
  have hw : ww A s.heap D [[(h0, .inr (6, [.null, .null, .int (0 : Int32), .int (0 : Int32)]))]] H locs := hw
  refine lv_aload_n hx hb dX6_init_0 rfl (lv_at hl 0 rfl) ?_
  refine W.objInit hx hb hown (hts (.methodLink RX6 3 objectInit) (by decide +kernel)) (hts (.instanceMethod objectInit) (by decide +kernel)) (hts (.code objectInit ⟨#[0xb1]⟩ 1 none) (by decide +kernel)) rfl (by rw [hml]; exact hl.1) rfl dX6_init_1 (Nat.le_of_ble_eq_true rfl) (Nat.le_of_ble_eq_true rfl) ?_
  refine W.eq (g2 := F0 m 4 ls []) rfl ?_
  refine lv_aload_n hx hb dX6_init_4 rfl (lv_at hl 0 rfl) ?_
  refine k_new (bs1 := []) (ci := 0) (C := RX0) (T := TX0) (N := 2) (fs := [.null, .int 0]) hx hb hts hown hz hw hA (by decide +kernel) tyX0 tyX0_ok (by decide +kernel) (by decide +kernel) (by decide +kernel) rfl (fun j hj => by rcases (show j = 0 ∨ j = 1 by omega) with rfl | rfl <;> rfl) (Nat.le_of_ble_eq_true rfl) (Nat.le_of_ble_eq_true rfl) dX6_init_5 (fun q1 H hw => ?_)
  have hw : ww A s.heap D [[(h0, .inr (6, [.null, .null, .int (0 : Int32), .int (0 : Int32)]))], [(q1, .inr (0, [.null, .int 0]))]] H locs := hw
  refine lv_dup hx hb dX6_init_8 rfl ?_
  refine lv_bipush (v := 100) hx hb dX6_init_9 (by decide) ?_
  obtain ⟨o2, hso2, hsp⟩ := bnd_of hsp
  refine k_callE (S := Nat) (cs := [[(q1, .inr (0, [.null, .int 0]))]]) (rs := [[(h0, .inr (6, [.null, .null, .int (0 : Int32), .int (0 : Int32)]))]]) (cs1 := fun x => [w0 cA (q1, x) o2]) (bs1 := fun x => [[(h0, .inr (6, [.null, .null, .int (0 : Int32), .int (0 : Int32)]))], w0 cA (q1, x) o2]) (rest := [.ref q1, .ref h0]) hw hA [1] [0] [0, 1] rfl rfl rfl (fun _ => rfl) rfl (k_runIE (nA := 1) (As := [.int (100 : Int32)]) (b := q1) (cs := [[(q1, .inr (0, [.null, .int 0]))]]) (rs := [[(h0, .inr (6, [.null, .null, .int (0 : Int32), .int (0 : Int32)]))]]) (rest := [.ref q1, .ref h0]) ⟨hx, hb, hml, hown, hts⟩ hz hO hw hA (mX0_init_100 l D cA cR  q1 o2 hso2) gX6_init_X0_init rfl rfl rfl (by decide +kernel) (by decide +kernel) (by decide +kernel) rfl (by decide +kernel) rfl ⟨Nat.le_of_ble_eq_true rfl, Nat.le_of_ble_eq_true rfl⟩ hl.1 rfl (Nat.le_of_ble_eq_true rfl) dX6_init_11 ⟨Nat.le_of_ble_eq_true rfl, Nat.le_of_ble_eq_true rfl⟩ [1] [0] rfl rfl rfl) rfl (fun x3 H locs hw => ?_)
  have hw : ww A s.heap D [[(h0, .inr (6, [.null, .null, .int (0 : Int32), .int (0 : Int32)]))], w0 cA (q1, x3) o2] H locs := hw
  refine k_putF (ci := 6) (v := .ref q1) (ty := .object "OccupancyMonitor$Bytes") (C := RX6) (T := TX6) (N := 4) (bs1 := [[(h0, .inr (6, [.ref q1, .null, .int (0 : Int32), .int (0 : Int32)]))], w0 cA (q1, x3) o2]) hx hb hts hown hz hw (by decide +kernel) tyX6 tyX6_ok nmX6 0 rfl rfl 0 (by decide) (hts (.fieldLink RX6 14 "OccupancyMonitor$PlanParser" "text" "LOccupancyMonitor$Bytes;") (by decide +kernel)) (fun _ h9 => h9) rfl hnm rfl (by decide +kernel) rfl rfl (Nat.le_of_ble_eq_true rfl) dX6_init_14 rfl (fun H locs hw => ?_)
  refine lv_aload_n hx hb dX6_init_17 rfl (lv_at hl 0 rfl) ?_
  refine k_new (bs1 := []) (ci := 5) (C := RX5) (T := TX5) (N := 4) (fs := [.null, .int 0, .int 0, .int 0]) hx hb hts hown hz hw hA (by decide +kernel) tyX5 tyX5_ok (by decide +kernel) (by decide +kernel) (by decide +kernel) rfl (fun j hj => by rcases (show j = 0 ∨ j = 1 ∨ j = 2 ∨ j = 3 by omega) with rfl | rfl | rfl | rfl <;> rfl) (Nat.le_of_ble_eq_true rfl) (Nat.le_of_ble_eq_true rfl) dX6_init_18 (fun q4 H hw => ?_)
  have hw : ww A s.heap D [[(h0, .inr (6, [.ref q1, .null, .int (0 : Int32), .int (0 : Int32)]))], w0 cA (q1, x3) o2, [(q4, .inr (5, [.null, .int 0, .int 0, .int 0]))]] H locs := hw
  refine lv_dup hx hb dX6_init_21 rfl ?_
  obtain ⟨o5, hso5, hsp⟩ := bnd_of hsp
  refine k_callE (S := A9) (cs := [[(q4, .inr (5, [.null, .int 0, .int 0, .int 0]))]]) (rs := [[(h0, .inr (6, [.ref q1, .null, .int (0 : Int32), .int (0 : Int32)]))], w0 cA (q1, x3) o2]) (cs1 := fun x => [w5 cA (q4, x) o5]) (bs1 := fun x => [[(h0, .inr (6, [.ref q1, .null, .int (0 : Int32), .int (0 : Int32)]))], w0 cA (q1, x3) o2, w5 cA (q4, x) o5]) (rest := [.ref q4, .ref h0]) hw hA [2] [0, 1] [0, 1, 2] rfl rfl rfl (fun _ => rfl) rfl (k_runINE (host := "OccupancyMonitor") (nA := 0) (As := []) (b := q4) (cs := [[(q4, .inr (5, [.null, .int 0, .int 0, .int 0]))]]) (rs := [[(h0, .inr (6, [.ref q1, .null, .int (0 : Int32), .int (0 : Int32)]))], w0 cA (q1, x3) o2]) (rest := [.ref q4, .ref h0]) ⟨hx, hb, hml, hown, hts⟩ hz hO hw hA (mX5_init l D cA cR  q4 o5 hso5) gX6_init_X5_init_n22 rfl rfl rfl (by decide +kernel) (by decide +kernel) (by decide +kernel) rfl (by decide +kernel) rfl ⟨Nat.le_of_ble_eq_true rfl, Nat.le_of_ble_eq_true rfl⟩ hl.1 rfl (Nat.le_of_ble_eq_true rfl) dX6_init_22 ⟨Nat.le_of_ble_eq_true rfl, Nat.le_of_ble_eq_true rfl⟩ [2] [0, 1] rfl rfl rfl) rfl (fun x6 H locs hw => ?_)
  have hw : ww A s.heap D [[(h0, .inr (6, [.ref q1, .null, .int (0 : Int32), .int (0 : Int32)]))], w0 cA (q1, x3) o2, w5 cA (q4, x6) o5] H locs := hw
  refine k_putF (ci := 6) (v := .ref q4) (ty := .object "OccupancyMonitor$Plan") (C := RX6) (T := TX6) (N := 4) (bs1 := [[(h0, .inr (6, [.ref q1, .ref q4, .int (0 : Int32), .int (0 : Int32)]))], w0 cA (q1, x3) o2, w5 cA (q4, x6) o5]) hx hb hts hown hz hw (by decide +kernel) tyX6 tyX6_ok nmX6 0 rfl rfl 1 (by decide) (hts (.fieldLink RX6 23 "OccupancyMonitor$PlanParser" "draft" "LOccupancyMonitor$Plan;") (by decide +kernel)) (fun _ h9 => h9) rfl hnm rfl (by decide +kernel) rfl rfl (Nat.le_of_ble_eq_true rfl) dX6_init_25 rfl (fun H locs hw => ?_)
  have hsp := Option.some.inj hsp
  subst hsp
  have hw : ww A s.heap D [w6 cA (h0, (q1, x3), (q4, x6)) (o2, o5, (0 : Int32), (0 : Int32))] H locs := hw
  subst hQ
  exact k_vretE ((q1, x3), (q4, x6)) hx hb hr hlk hw dX6_init_28
noncomputable def sX10_init (N : Nat) : Option (V10) := ((sX6_init ).bind (fun o2 => ((sX0_init_108 ).bind (fun o5 => ((sX8_init N).bind (fun o8 => ((sX3_init N).bind (fun o11 => ((sX4_init ).bind (fun o14 => (some (o2, o5, o8, o11, o14, (32, (fun _ => 0))))))))))))))
abbrev rX10_init : Room := { frames := 6, cells := 115, slots := 4887, locals := 126 }
set_option maxHeartbeats 4000000 in
set_option maxRecDepth 100000 in
theorem mX10_init (l : Launch) (D : va_G) (cA cR : ClassId) (N : Nat) (h0 : Nat) (o : V10) (hsp : sX10_init N  = some o) : ME l yX10_init wsX10_init rX10_init D cA cR [.ref h0] [[(h0, .inr (10, [.null, .null, .null, .null, .null, .null, .null]))]] (fun x : A6 × A0 × A8 × A3 × A4 × Nat => [w10 cA cR (h0, x) o]) 115 4887 := by
  have hsp : ((sX6_init ).bind (fun o2 => ((sX0_init_108 ).bind (fun o5 => ((sX8_init N).bind (fun o8 => ((sX3_init N).bind (fun o11 => ((sX4_init ).bind (fun o14 => (some (o2, o5, o8, o11, o14, (32, (fun _ => 0)))))))))))))) = some o := hsp
  refine ME.ofW (cc := cX10_init) (maxL := 1) (ret := none) (by decide) rfl (Nat.le_of_ble_eq_true rfl) ?_
  intro p e s m args below meth c A ls Q H locs hx hb hr hlk hml hown hnm hts hz hO hA hQ hw hl
  have hl : lv_has ls 1 [(0, .ref h0)] := hl
  have hw : ww A s.heap D [[(h0, .inr (10, [.null, .null, .null, .null, .null, .null, .null]))]] H locs := hw
  refine lv_aload_n hx hb dX10_init_0 rfl (lv_at hl 0 rfl) ?_
  refine W.objInit hx hb hown (hts (.methodLink RX10 1 objectInit) (by decide +kernel)) (hts (.instanceMethod objectInit) (by decide +kernel)) (hts (.code objectInit ⟨#[0xb1]⟩ 1 none) (by decide +kernel)) rfl (by rw [hml]; exact hl.1) rfl dX10_init_1 (Nat.le_of_ble_eq_true rfl) (Nat.le_of_ble_eq_true rfl) ?_
  refine W.eq (g2 := F0 m 4 ls []) rfl ?_
  refine lv_aload_n hx hb dX10_init_4 rfl (lv_at hl 0 rfl) ?_
  refine k_new (bs1 := []) (ci := 6) (C := RX6) (T := TX6) (N := 4) (fs := [.null, .null, .int 0, .int 0]) hx hb hts hown hz hw hA (by decide +kernel) tyX6 tyX6_ok (by decide +kernel) (by decide +kernel) (by decide +kernel) rfl (fun j hj => by rcases (show j = 0 ∨ j = 1 ∨ j = 2 ∨ j = 3 by omega) with rfl | rfl | rfl | rfl <;> rfl) (Nat.le_of_ble_eq_true rfl) (Nat.le_of_ble_eq_true rfl) dX10_init_5 (fun q1 H hw => ?_)
  have hw : ww A s.heap D [[(h0, .inr (10, [.null, .null, .null, .null, .null, .null, .null]))], [(q1, .inr (6, [.null, .null, .int 0, .int 0]))]] H locs := hw
  refine lv_dup hx hb dX10_init_8 rfl ?_
  obtain ⟨o2, hso2, hsp⟩ := bnd_of hsp
  refine k_callE (S := A0 × A5) (cs := [[(q1, .inr (6, [.null, .null, .int 0, .int 0]))]]) (rs := [[(h0, .inr (10, [.null, .null, .null, .null, .null, .null, .null]))]]) (cs1 := fun x => [w6 cA (q1, x) o2]) (bs1 := fun x => [[(h0, .inr (10, [.null, .null, .null, .null, .null, .null, .null]))], w6 cA (q1, x) o2]) (rest := [.ref q1, .ref h0]) hw hA [1] [0] [0, 1] rfl rfl rfl (fun _ => rfl) rfl (k_runINE (host := "OccupancyMonitor") (nA := 0) (As := []) (b := q1) (cs := [[(q1, .inr (6, [.null, .null, .int 0, .int 0]))]]) (rs := [[(h0, .inr (10, [.null, .null, .null, .null, .null, .null, .null]))]]) (rest := [.ref q1, .ref h0]) ⟨hx, hb, hml, hown, hts⟩ hz hO hw hA (mX6_init l D cA cR  q1 o2 hso2) gX10_init_X6_init_n9 rfl rfl rfl (by decide +kernel) (by decide +kernel) (by decide +kernel) rfl (by decide +kernel) rfl ⟨Nat.le_of_ble_eq_true rfl, Nat.le_of_ble_eq_true rfl⟩ hl.1 rfl (Nat.le_of_ble_eq_true rfl) dX10_init_9 ⟨Nat.le_of_ble_eq_true rfl, Nat.le_of_ble_eq_true rfl⟩ [1] [0] rfl rfl rfl) rfl (fun x3 H locs hw => ?_)
  have hw : ww A s.heap D [[(h0, .inr (10, [.null, .null, .null, .null, .null, .null, .null]))], w6 cA (q1, x3) o2] H locs := hw
  refine k_putF (ci := 10) (v := .ref q1) (ty := .object "OccupancyMonitor$PlanParser") (C := RX10) (T := TX10) (N := 7) (bs1 := [[(h0, .inr (10, [.ref q1, .null, .null, .null, .null, .null, .null]))], w6 cA (q1, x3) o2]) hx hb hts hown hz hw (by decide +kernel) tyX10 tyX10_ok nmX10 0 rfl rfl 0 (by decide) (hts (.fieldLink RX10 10 "OccupancyMonitor" "parser" "LOccupancyMonitor$PlanParser;") (by decide +kernel)) (fun _ h9 => h9) rfl hnm rfl (by decide +kernel) rfl rfl (Nat.le_of_ble_eq_true rfl) dX10_init_12 rfl (fun H locs hw => ?_)
  refine lv_aload_n hx hb dX10_init_15 rfl (lv_at hl 0 rfl) ?_
  refine lv_aload_n hx hb dX10_init_16 rfl (lv_at hl 0 rfl) ?_
  refine k_get (ci := 10) (v := .ref q1) (C := RX10) (T := TX10) (N := 7) hx hb hts hown hz hw (by decide +kernel) 0 rfl rfl 0 (by decide) (hts (.fieldLink RX10 10 "OccupancyMonitor" "parser" "LOccupancyMonitor$PlanParser;") (by decide +kernel)) (fun _ h9 => h9) rfl dX10_init_17 ?_
  refine k_getN (ci := 6) (v := .ref x3.1.1) (C := RX6) (T := TX6) (N := 4) (host := "OccupancyMonitor") hx hb hts hown hz (show ww A s.heap D [[(h0, .inr (10, [.ref q1, .null, .null, .null, .null, .null, .null]))], [(q1, .inr (6, [.ref x3.1.1, .ref x3.2.1, .int o2.2.2.1, .int o2.2.2.2]))], w0 cA x3.1 o2.1, w5 cA x3.2 o2.2.1] H locs from hw) (by decide +kernel) 1 rfl rfl 0 (by decide) (by decide +kernel) (fun _ h9 => h9) rfl dX10_init_20 ?_
  refine k_putF (ci := 10) (v := .ref x3.1.1) (ty := .object "OccupancyMonitor$Bytes") (C := RX10) (T := TX10) (N := 7) (bs1 := [[(h0, .inr (10, [.ref q1, .ref x3.1.1, .null, .null, .null, .null, .null]))], w6 cA (q1, x3) o2]) hx hb hts hown hz hw (by decide +kernel) tyX10 tyX10_ok nmX10 0 rfl rfl 1 (by decide) (hts (.fieldLink RX10 20 "OccupancyMonitor" "text" "LOccupancyMonitor$Bytes;") (by decide +kernel)) (fun _ h9 => h9) rfl hnm rfl (by decide +kernel) rfl rfl (Nat.le_of_ble_eq_true rfl) dX10_init_23 rfl (fun H locs hw => ?_)
  refine lv_aload_n hx hb dX10_init_26 rfl (lv_at hl 0 rfl) ?_
  refine k_new (bs1 := []) (ci := 0) (C := RX0) (T := TX0) (N := 2) (fs := [.null, .int 0]) hx hb hts hown hz hw hA (by decide +kernel) tyX0 tyX0_ok (by decide +kernel) (by decide +kernel) (by decide +kernel) rfl (fun j hj => by rcases (show j = 0 ∨ j = 1 by omega) with rfl | rfl <;> rfl) (Nat.le_of_ble_eq_true rfl) (Nat.le_of_ble_eq_true rfl) dX10_init_27 (fun q4 H hw => ?_)
  have hw : ww A s.heap D [[(h0, .inr (10, [.ref q1, .ref x3.1.1, .null, .null, .null, .null, .null]))], w6 cA (q1, x3) o2, [(q4, .inr (0, [.null, .int 0]))]] H locs := hw
  refine lv_dup hx hb dX10_init_30 rfl ?_
  refine lv_bipush (v := 108) hx hb dX10_init_31 (by decide) ?_
  obtain ⟨o5, hso5, hsp⟩ := bnd_of hsp
  refine k_callE (S := Nat) (cs := [[(q4, .inr (0, [.null, .int 0]))]]) (rs := [[(h0, .inr (10, [.ref q1, .ref x3.1.1, .null, .null, .null, .null, .null]))], w6 cA (q1, x3) o2]) (cs1 := fun x => [w0 cA (q4, x) o5]) (bs1 := fun x => [[(h0, .inr (10, [.ref q1, .ref x3.1.1, .null, .null, .null, .null, .null]))], w6 cA (q1, x3) o2, w0 cA (q4, x) o5]) (rest := [.ref q4, .ref h0]) hw hA [2] [0, 1] [0, 1, 2] rfl rfl rfl (fun _ => rfl) rfl (k_runIE (nA := 1) (As := [.int (108 : Int32)]) (b := q4) (cs := [[(q4, .inr (0, [.null, .int 0]))]]) (rs := [[(h0, .inr (10, [.ref q1, .ref x3.1.1, .null, .null, .null, .null, .null]))], w6 cA (q1, x3) o2]) (rest := [.ref q4, .ref h0]) ⟨hx, hb, hml, hown, hts⟩ hz hO hw hA (mX0_init_108 l D cA cR  q4 o5 hso5) gX10_init_X0_init rfl rfl rfl (by decide +kernel) (by decide +kernel) (by decide +kernel) rfl (by decide +kernel) rfl ⟨Nat.le_of_ble_eq_true rfl, Nat.le_of_ble_eq_true rfl⟩ hl.1 rfl (Nat.le_of_ble_eq_true rfl) dX10_init_33 ⟨Nat.le_of_ble_eq_true rfl, Nat.le_of_ble_eq_true rfl⟩ [2] [0, 1] rfl rfl rfl) rfl (fun x6 H locs hw => ?_)
  have hw : ww A s.heap D [[(h0, .inr (10, [.ref q1, .ref x3.1.1, .null, .null, .null, .null, .null]))], w6 cA (q1, x3) o2, w0 cA (q4, x6) o5] H locs := hw
  refine k_putF (ci := 10) (v := .ref q4) (ty := .object "OccupancyMonitor$Bytes") (C := RX10) (T := TX10) (N := 7) (bs1 := [[(h0, .inr (10, [.ref q1, .ref x3.1.1, .ref q4, .null, .null, .null, .null]))], w6 cA (q1, x3) o2, w0 cA (q4, x6) o5]) hx hb hts hown hz hw (by decide +kernel) tyX10 tyX10_ok nmX10 0 rfl rfl 2 (by decide) (hts (.fieldLink RX10 26 "OccupancyMonitor" "planText" "LOccupancyMonitor$Bytes;") (by decide +kernel)) (fun _ h9 => h9) rfl hnm rfl (by decide +kernel) rfl rfl (Nat.le_of_ble_eq_true rfl) dX10_init_36 rfl (fun H locs hw => ?_)
  refine lv_aload_n hx hb dX10_init_39 rfl (lv_at hl 0 rfl) ?_
  refine k_new (bs1 := []) (ci := 8) (C := RX8) (T := TX8) (N := 9) (fs := [.null, .null, .null, .null, .int 0, .int 0, .int 0, .int 0, .int 0]) hx hb hts hown hz hw hA (by decide +kernel) tyX8 tyX8_ok (by decide +kernel) (by decide +kernel) (by decide +kernel) rfl (fun j hj => by rcases (show j = 0 ∨ j = 1 ∨ j = 2 ∨ j = 3 ∨ j = 4 ∨ j = 5 ∨ j = 6 ∨ j = 7 ∨ j = 8 by omega) with rfl | rfl | rfl | rfl | rfl | rfl | rfl | rfl | rfl <;> rfl) (Nat.le_of_ble_eq_true rfl) (Nat.le_of_ble_eq_true rfl) dX10_init_40 (fun q7 H hw => ?_)
  have hw : ww A s.heap D [[(h0, .inr (10, [.ref q1, .ref x3.1.1, .ref q4, .null, .null, .null, .null]))], w6 cA (q1, x3) o2, w0 cA (q4, x6) o5, [(q7, .inr (8, [.null, .null, .null, .null, .int 0, .int 0, .int 0, .int 0, .int 0]))]] H locs := hw
  refine lv_dup hx hb dX10_init_43 rfl ?_
  obtain ⟨o8, hso8, hsp⟩ := bnd_of hsp
  refine k_callE (S := A7 × A5 × A1 × A2) (cs := [[(q7, .inr (8, [.null, .null, .null, .null, .int 0, .int 0, .int 0, .int 0, .int 0]))]]) (rs := [[(h0, .inr (10, [.ref q1, .ref x3.1.1, .ref q4, .null, .null, .null, .null]))], w6 cA (q1, x3) o2, w0 cA (q4, x6) o5]) (cs1 := fun x => [w8 cA (q7, x) o8]) (bs1 := fun x => [[(h0, .inr (10, [.ref q1, .ref x3.1.1, .ref q4, .null, .null, .null, .null]))], w6 cA (q1, x3) o2, w0 cA (q4, x6) o5, w8 cA (q7, x) o8]) (rest := [.ref q7, .ref h0]) hw hA [3] [0, 1, 2] [0, 1, 2, 3] rfl rfl rfl (fun _ => rfl) rfl (k_runINE (host := "OccupancyMonitor") (nA := 0) (As := []) (b := q7) (cs := [[(q7, .inr (8, [.null, .null, .null, .null, .int 0, .int 0, .int 0, .int 0, .int 0]))]]) (rs := [[(h0, .inr (10, [.ref q1, .ref x3.1.1, .ref q4, .null, .null, .null, .null]))], w6 cA (q1, x3) o2, w0 cA (q4, x6) o5]) (rest := [.ref q7, .ref h0]) ⟨hx, hb, hml, hown, hts⟩ hz hO hw hA (mX8_init l D cA cR N q7 o8 hso8) gX10_init_X8_init_n31 rfl rfl rfl (by decide +kernel) (by decide +kernel) (by decide +kernel) rfl (by decide +kernel) rfl ⟨Nat.le_of_ble_eq_true rfl, Nat.le_of_ble_eq_true rfl⟩ hl.1 rfl (Nat.le_of_ble_eq_true rfl) dX10_init_44 ⟨Nat.le_of_ble_eq_true rfl, Nat.le_of_ble_eq_true rfl⟩ [3] [0, 1, 2] rfl rfl rfl) rfl (fun x9 H locs hw => ?_)
  have hw : ww A s.heap D [[(h0, .inr (10, [.ref q1, .ref x3.1.1, .ref q4, .null, .null, .null, .null]))], w6 cA (q1, x3) o2, w0 cA (q4, x6) o5, w8 cA (q7, x9) o8] H locs := hw
  refine k_putF (ci := 10) (v := .ref q7) (ty := .object "OccupancyMonitor$State") (C := RX10) (T := TX10) (N := 7) (bs1 := [[(h0, .inr (10, [.ref q1, .ref x3.1.1, .ref q4, .ref q7, .null, .null, .null]))], w6 cA (q1, x3) o2, w0 cA (q4, x6) o5, w8 cA (q7, x9) o8]) hx hb hts hown hz hw (by decide +kernel) tyX10 tyX10_ok nmX10 0 rfl rfl 3 (by decide) (hts (.fieldLink RX10 32 "OccupancyMonitor" "now" "LOccupancyMonitor$State;") (by decide +kernel)) (fun _ h9 => h9) rfl hnm rfl (by decide +kernel) rfl rfl (Nat.le_of_ble_eq_true rfl) dX10_init_47 rfl (fun H locs hw => ?_)
  refine lv_aload_n hx hb dX10_init_50 rfl (lv_at hl 0 rfl) ?_
  refine k_new (bs1 := []) (ci := 3) (C := RX3) (T := TX3) (N := 3) (fs := [.null, .int 0, .int 0]) hx hb hts hown hz hw hA (by decide +kernel) tyX3 tyX3_ok (by decide +kernel) (by decide +kernel) (by decide +kernel) rfl (fun j hj => by rcases (show j = 0 ∨ j = 1 ∨ j = 2 by omega) with rfl | rfl | rfl <;> rfl) (Nat.le_of_ble_eq_true rfl) (Nat.le_of_ble_eq_true rfl) dX10_init_51 (fun q10 H hw => ?_)
  have hw : ww A s.heap D [[(h0, .inr (10, [.ref q1, .ref x3.1.1, .ref q4, .ref q7, .null, .null, .null]))], w6 cA (q1, x3) o2, w0 cA (q4, x6) o5, w8 cA (q7, x9) o8, [(q10, .inr (3, [.null, .int 0, .int 0]))]] H locs := hw
  refine lv_dup hx hb dX10_init_54 rfl ?_
  obtain ⟨o11, hso11, hsp⟩ := bnd_of hsp
  refine k_callE (S := Nat × A8 × A8 × A8 × A8) (cs := [[(q10, .inr (3, [.null, .int 0, .int 0]))]]) (rs := [[(h0, .inr (10, [.ref q1, .ref x3.1.1, .ref q4, .ref q7, .null, .null, .null]))], w6 cA (q1, x3) o2, w0 cA (q4, x6) o5, w8 cA (q7, x9) o8]) (cs1 := fun x => [w3 cA cR (q10, x) o11]) (bs1 := fun x => [[(h0, .inr (10, [.ref q1, .ref x3.1.1, .ref q4, .ref q7, .null, .null, .null]))], w6 cA (q1, x3) o2, w0 cA (q4, x6) o5, w8 cA (q7, x9) o8, w3 cA cR (q10, x) o11]) (rest := [.ref q10, .ref h0]) hw hA [4] [0, 1, 2, 3] [0, 1, 2, 3, 4] rfl rfl rfl (fun _ => rfl) rfl (k_runIE (nA := 0) (As := []) (b := q10) (cs := [[(q10, .inr (3, [.null, .int 0, .int 0]))]]) (rs := [[(h0, .inr (10, [.ref q1, .ref x3.1.1, .ref q4, .ref q7, .null, .null, .null]))], w6 cA (q1, x3) o2, w0 cA (q4, x6) o5, w8 cA (q7, x9) o8]) (rest := [.ref q10, .ref h0]) ⟨hx, hb, hml, hown, hts⟩ hz hO hw hA (mX3_init l D cA cR N q10 o11 hso11) gX10_init_X3_init rfl rfl rfl (by decide +kernel) (by decide +kernel) (by decide +kernel) rfl (by decide +kernel) rfl ⟨Nat.le_of_ble_eq_true rfl, Nat.le_of_ble_eq_true rfl⟩ hl.1 rfl (Nat.le_of_ble_eq_true rfl) dX10_init_55 ⟨Nat.le_of_ble_eq_true rfl, Nat.le_of_ble_eq_true rfl⟩ [4] [0, 1, 2, 3] rfl rfl rfl) rfl (fun x12 H locs hw => ?_)
  have hw : ww A s.heap D [[(h0, .inr (10, [.ref q1, .ref x3.1.1, .ref q4, .ref q7, .null, .null, .null]))], w6 cA (q1, x3) o2, w0 cA (q4, x6) o5, w8 cA (q7, x9) o8, w3 cA cR (q10, x12) o11] H locs := hw
  refine k_putF (ci := 10) (v := .ref q10) (ty := .object "OccupancyMonitor$History") (C := RX10) (T := TX10) (N := 7) (bs1 := [[(h0, .inr (10, [.ref q1, .ref x3.1.1, .ref q4, .ref q7, .ref q10, .null, .null]))], w6 cA (q1, x3) o2, w0 cA (q4, x6) o5, w8 cA (q7, x9) o8, w3 cA cR (q10, x12) o11]) hx hb hts hown hz hw (by decide +kernel) tyX10 tyX10_ok nmX10 0 rfl rfl 4 (by decide) (hts (.fieldLink RX10 39 "OccupancyMonitor" "history" "LOccupancyMonitor$History;") (by decide +kernel)) (fun _ h9 => h9) rfl hnm rfl (by decide +kernel) rfl rfl (Nat.le_of_ble_eq_true rfl) dX10_init_58 rfl (fun H locs hw => ?_)
  refine lv_aload_n hx hb dX10_init_61 rfl (lv_at hl 0 rfl) ?_
  refine k_new (bs1 := []) (ci := 4) (C := RX4) (T := TX4) (N := 4) (fs := [.null, .null, .null, .int 0]) hx hb hts hown hz hw hA (by decide +kernel) tyX4 tyX4_ok (by decide +kernel) (by decide +kernel) (by decide +kernel) rfl (fun j hj => by rcases (show j = 0 ∨ j = 1 ∨ j = 2 ∨ j = 3 by omega) with rfl | rfl | rfl | rfl <;> rfl) (Nat.le_of_ble_eq_true rfl) (Nat.le_of_ble_eq_true rfl) dX10_init_62 (fun q13 H hw => ?_)
  have hw : ww A s.heap D [[(h0, .inr (10, [.ref q1, .ref x3.1.1, .ref q4, .ref q7, .ref q10, .null, .null]))], w6 cA (q1, x3) o2, w0 cA (q4, x6) o5, w8 cA (q7, x9) o8, w3 cA cR (q10, x12) o11, [(q13, .inr (4, [.null, .null, .null, .int 0]))]] H locs := hw
  refine lv_dup hx hb dX10_init_65 rfl ?_
  obtain ⟨o14, hso14, hsp⟩ := bnd_of hsp
  refine k_callE (S := Nat × Nat × Nat) (cs := [[(q13, .inr (4, [.null, .null, .null, .int 0]))]]) (rs := [[(h0, .inr (10, [.ref q1, .ref x3.1.1, .ref q4, .ref q7, .ref q10, .null, .null]))], w6 cA (q1, x3) o2, w0 cA (q4, x6) o5, w8 cA (q7, x9) o8, w3 cA cR (q10, x12) o11]) (cs1 := fun x => [w4 cA (q13, x) o14]) (bs1 := fun x => [[(h0, .inr (10, [.ref q1, .ref x3.1.1, .ref q4, .ref q7, .ref q10, .null, .null]))], w6 cA (q1, x3) o2, w0 cA (q4, x6) o5, w8 cA (q7, x9) o8, w3 cA cR (q10, x12) o11, w4 cA (q13, x) o14]) (rest := [.ref q13, .ref h0]) hw hA [5] [0, 1, 2, 3, 4] [0, 1, 2, 3, 4, 5] rfl rfl rfl (fun _ => rfl) rfl (k_runINE (host := "OccupancyMonitor") (nA := 0) (As := []) (b := q13) (cs := [[(q13, .inr (4, [.null, .null, .null, .int 0]))]]) (rs := [[(h0, .inr (10, [.ref q1, .ref x3.1.1, .ref q4, .ref q7, .ref q10, .null, .null]))], w6 cA (q1, x3) o2, w0 cA (q4, x6) o5, w8 cA (q7, x9) o8, w3 cA cR (q10, x12) o11]) (rest := [.ref q13, .ref h0]) ⟨hx, hb, hml, hown, hts⟩ hz hO hw hA (mX4_init l D cA cR  q13 o14 hso14) gX10_init_X4_init_n45 rfl rfl rfl (by decide +kernel) (by decide +kernel) (by decide +kernel) rfl (by decide +kernel) rfl ⟨Nat.le_of_ble_eq_true rfl, Nat.le_of_ble_eq_true rfl⟩ hl.1 rfl (Nat.le_of_ble_eq_true rfl) dX10_init_66 ⟨Nat.le_of_ble_eq_true rfl, Nat.le_of_ble_eq_true rfl⟩ [5] [0, 1, 2, 3, 4] rfl rfl rfl) rfl (fun x15 H locs hw => ?_)
  have hw : ww A s.heap D [[(h0, .inr (10, [.ref q1, .ref x3.1.1, .ref q4, .ref q7, .ref q10, .null, .null]))], w6 cA (q1, x3) o2, w0 cA (q4, x6) o5, w8 cA (q7, x9) o8, w3 cA cR (q10, x12) o11, w4 cA (q13, x15) o14] H locs := hw
  refine k_putF (ci := 10) (v := .ref q13) (ty := .object "OccupancyMonitor$HopChains") (C := RX10) (T := TX10) (N := 7) (bs1 := [[(h0, .inr (10, [.ref q1, .ref x3.1.1, .ref q4, .ref q7, .ref q10, .ref q13, .null]))], w6 cA (q1, x3) o2, w0 cA (q4, x6) o5, w8 cA (q7, x9) o8, w3 cA cR (q10, x12) o11, w4 cA (q13, x15) o14]) hx hb hts hown hz hw (by decide +kernel) tyX10 tyX10_ok nmX10 0 rfl rfl 5 (by decide) (hts (.fieldLink RX10 46 "OccupancyMonitor" "hopChains" "LOccupancyMonitor$HopChains;") (by decide +kernel)) (fun _ h9 => h9) rfl hnm rfl (by decide +kernel) rfl rfl (Nat.le_of_ble_eq_true rfl) dX10_init_69 rfl (fun H locs hw => ?_)
  refine lv_aload_n hx hb dX10_init_72 rfl (lv_at hl 0 rfl) ?_
  refine lv_bipush (v := 32) hx hb dX10_init_73 (by decide) ?_
  refine k_newi (N' := 32) hx hb hts hz hw hA (by decide +kernel) (by decide) (by decide) (Nat.le_of_ble_eq_true rfl) (Nat.le_of_ble_eq_true rfl) (Nat.le_of_ble_eq_true rfl) dX10_init_75 (fun q16 H hw => ?_)
  have hw : ww A s.heap D [[(h0, .inr (10, [.ref q1, .ref x3.1.1, .ref q4, .ref q7, .ref q10, .ref q13, .null]))], w6 cA (q1, x3) o2, w0 cA (q4, x6) o5, w8 cA (q7, x9) o8, w3 cA cR (q10, x12) o11, w4 cA (q13, x15) o14, [(q16, .inl (cA, 32, .inl (fun _ => 0)))]] H locs := hw
  refine k_putF (ci := 10) (v := .ref q16) (ty := .array .int) (C := RX10) (T := TX10) (N := 7) (bs1 := [[(h0, .inr (10, [.ref q1, .ref x3.1.1, .ref q4, .ref q7, .ref q10, .ref q13, .ref q16]))], w6 cA (q1, x3) o2, w0 cA (q4, x6) o5, w8 cA (q7, x9) o8, w3 cA cR (q10, x12) o11, w4 cA (q13, x15) o14, [(q16, .inl (cA, 32, .inl (fun _ => 0)))]]) hx hb hts hown hz hw (by decide +kernel) tyX10 tyX10_ok nmX10 0 rfl rfl 6 (by decide) (hts (.fieldLink RX10 50 "OccupancyMonitor" "levels" "[I") (by decide +kernel)) (fun _ h9 => h9) rfl hnm rfl (by decide +kernel) rfl rfl (Nat.le_of_ble_eq_true rfl) dX10_init_77 rfl (fun H locs hw => ?_)
  have hsp := Option.some.inj hsp
  subst hsp
  have hw : ww A s.heap D [w10 cA cR (h0, (q1, x3), (q4, x6), (q7, x9), (q10, x12), (q13, x15), q16) (o2, o5, o8, o11, o14, (32, (fun _ => 0)))] H locs := hw
  subst hQ
  exact k_vretE ((q1, x3), (q4, x6), (q7, x9), (q10, x12), (q13, x15), q16) hx hb hr hlk hw dX10_init_80
noncomputable def qX11_init_79  : Nat → Int32 → (Nat → Int32) → Option (Int32 × (Nat → Int32))
  | 0, _, _ => none
  | n79 + 1, z79_0, z79_1 => (if (32 : Int32) ≤ z79_0 then (some (z79_0, z79_1)) else (grd (vp_in ((106 : Int32) + z79_0) 804) (lt_ (upd z79_1 ((106 : Int32) + z79_0).toNatClampNeg (100 : Int32)) (fun f24 => (qX11_init_79 n79 (z79_0 + 1) f24)))))
noncomputable def sX11_init (N : Nat) : Option (V11) := (grd (vp_in (1 : Int32) 804) (lt_ (upd (fun _ => 0) (1 : Int32).toNatClampNeg (10 : Int32)) (fun f7 => (grd (vp_in (2 : Int32) 804) (lt_ (upd f7 (2 : Int32).toNatClampNeg (30 : Int32)) (fun f9 => (grd (vp_in (3 : Int32) 804) (lt_ (upd f9 (3 : Int32).toNatClampNeg (10 : Int32)) (fun f11 => (grd (vp_in (4 : Int32) 804) (lt_ (upd f11 (4 : Int32).toNatClampNeg (5 : Int32)) (fun f13 => ((qX11_init_79 N (0 : Int32) f13).bind (fun o21 => ((sX11_clears N ((804, o21.2), (3216, (fun _ => 0)), (0 : Int32), (0 : Int32), (100, (fun _ => 0)), (0 : Int32), (0 : Int32), (36, (fun _ => 0)), (0 : Int32), (0 : Int32), (0 : Int32), (0 : Int32), (50, (fun _ => 0)), (0 : Int32))).bind (fun o25 => (some ((o25.1.1, o25.1.2), (o25.2.1.1, o25.2.1.2), o25.2.2.1, o25.2.2.2.1, (o25.2.2.2.2.1.1, o25.2.2.2.2.1.2), o25.2.2.2.2.2.1, o25.2.2.2.2.2.2.1, (o25.2.2.2.2.2.2.2.1.1, o25.2.2.2.2.2.2.2.1.2), o25.2.2.2.2.2.2.2.2.1, o25.2.2.2.2.2.2.2.2.2.1, o25.2.2.2.2.2.2.2.2.2.2.1, o25.2.2.2.2.2.2.2.2.2.2.2.1, (o25.2.2.2.2.2.2.2.2.2.2.2.2.1.1, o25.2.2.2.2.2.2.2.2.2.2.2.2.1.2), o25.2.2.2.2.2.2.2.2.2.2.2.2.2))))))))))))))))))
abbrev rX11_init : Room := { frames := 1, cells := 5, slots := 4206, locals := 21 }
set_option maxHeartbeats 4000000 in
set_option maxRecDepth 100000 in
theorem mX11_init (l : Launch) (D : va_G) (cA cR : ClassId) (N : Nat) (h0 : Nat) (o : V11) (hsp : sX11_init N  = some o) : ME l yX11_init wsX11_init rX11_init D cA cR [.ref h0] [[(h0, .inr (11, [.null, .null, .int 0, .int 0, .null, .int 0, .int 0, .null, .int 0, .int 0, .int 0, .int 0, .null, .int 0]))]] (fun x : Nat × Nat × Nat × Nat × Nat => [w11 cA (h0, x) o]) 5 4206 := by
  have hsp : (grd (vp_in (1 : Int32) 804) (lt_ (upd (fun _ => 0) (1 : Int32).toNatClampNeg (10 : Int32)) (fun f7 => (grd (vp_in (2 : Int32) 804) (lt_ (upd f7 (2 : Int32).toNatClampNeg (30 : Int32)) (fun f9 => (grd (vp_in (3 : Int32) 804) (lt_ (upd f9 (3 : Int32).toNatClampNeg (10 : Int32)) (fun f11 => (grd (vp_in (4 : Int32) 804) (lt_ (upd f11 (4 : Int32).toNatClampNeg (5 : Int32)) (fun f13 => ((qX11_init_79 N (0 : Int32) f13).bind (fun o21 => ((sX11_clears N ((804, o21.2), (3216, (fun _ => 0)), (0 : Int32), (0 : Int32), (100, (fun _ => 0)), (0 : Int32), (0 : Int32), (36, (fun _ => 0)), (0 : Int32), (0 : Int32), (0 : Int32), (0 : Int32), (50, (fun _ => 0)), (0 : Int32))).bind (fun o25 => (some ((o25.1.1, o25.1.2), (o25.2.1.1, o25.2.1.2), o25.2.2.1, o25.2.2.2.1, (o25.2.2.2.2.1.1, o25.2.2.2.2.1.2), o25.2.2.2.2.2.1, o25.2.2.2.2.2.2.1, (o25.2.2.2.2.2.2.2.1.1, o25.2.2.2.2.2.2.2.1.2), o25.2.2.2.2.2.2.2.2.1, o25.2.2.2.2.2.2.2.2.2.1, o25.2.2.2.2.2.2.2.2.2.2.1, o25.2.2.2.2.2.2.2.2.2.2.2.1, (o25.2.2.2.2.2.2.2.2.2.2.2.2.1.1, o25.2.2.2.2.2.2.2.2.2.2.2.2.1.2), o25.2.2.2.2.2.2.2.2.2.2.2.2.2)))))))))))))))))) = some o := hsp
  refine ME.ofW (cc := cX11_init) (maxL := 2) (ret := none) (by decide) rfl (Nat.le_of_ble_eq_true rfl) ?_
  intro p e s m args below meth c A ls Q H locs hx hb hr hlk hml hown hnm hts hz hO hA hQ hw hl
  have hl : lv_has ls 2 [(0, .ref h0)] := hl
  have hw : ww A s.heap D [[(h0, .inr (11, [.null, .null, .int (0 : Int32), .int (0 : Int32), .null, .int (0 : Int32), .int (0 : Int32), .null, .int (0 : Int32), .int (0 : Int32), .int (0 : Int32), .int (0 : Int32), .null, .int (0 : Int32)]))]] H locs := hw
  refine lv_aload_n hx hb dX11_init_0 rfl (lv_at hl 0 rfl) ?_
  refine W.objInit hx hb hown (hts (.methodLink RX11 1 objectInit) (by decide +kernel)) (hts (.instanceMethod objectInit) (by decide +kernel)) (hts (.code objectInit ⟨#[0xb1]⟩ 1 none) (by decide +kernel)) rfl (by rw [hml]; exact hl.1) rfl dX11_init_1 (Nat.le_of_ble_eq_true rfl) (Nat.le_of_ble_eq_true rfl) ?_
  refine W.eq (g2 := F0 m 4 ls []) rfl ?_
  refine lv_aload_n hx hb dX11_init_4 rfl (lv_at hl 0 rfl) ?_
  refine lv_sipush (v := 804) hx hb dX11_init_5 (by decide) ?_
  refine k_newi (N' := 804) hx hb hts hz hw hA (by decide +kernel) (by decide) (by decide) (Nat.le_of_ble_eq_true rfl) (Nat.le_of_ble_eq_true rfl) (Nat.le_of_ble_eq_true rfl) dX11_init_8 (fun q1 H hw => ?_)
  have hw : ww A s.heap D [[(h0, .inr (11, [.null, .null, .int (0 : Int32), .int (0 : Int32), .null, .int (0 : Int32), .int (0 : Int32), .null, .int (0 : Int32), .int (0 : Int32), .int (0 : Int32), .int (0 : Int32), .null, .int (0 : Int32)]))], [(q1, .inl (cA, 804, .inl (fun _ => 0)))]] H locs := hw
  refine k_putF (ci := 11) (v := .ref q1) (ty := .array .int) (C := RX11) (T := TX11) (N := 14) (bs1 := [[(h0, .inr (11, [.ref q1, .null, .int (0 : Int32), .int (0 : Int32), .null, .int (0 : Int32), .int (0 : Int32), .null, .int (0 : Int32), .int (0 : Int32), .int (0 : Int32), .int (0 : Int32), .null, .int (0 : Int32)]))], [(q1, .inl (cA, 804, .inl (fun _ => 0)))]]) hx hb hts hown hz hw (by decide +kernel) tyX11 tyX11_ok nmX11 0 rfl rfl 0 (by decide) (hts (.fieldLink RX11 7 "OccupancyMonitorModel" "all" "[I") (by decide +kernel)) (fun _ h9 => h9) rfl hnm rfl (by decide +kernel) rfl rfl (Nat.le_of_ble_eq_true rfl) dX11_init_10 rfl (fun H locs hw => ?_)
  refine lv_aload_n hx hb dX11_init_13 rfl (lv_at hl 0 rfl) ?_
  refine lv_sipush (v := 3216) hx hb dX11_init_14 (by decide) ?_
  refine k_newi (N' := 3216) hx hb hts hz hw hA (by decide +kernel) (by decide) (by decide) (Nat.le_of_ble_eq_true rfl) (Nat.le_of_ble_eq_true rfl) (Nat.le_of_ble_eq_true rfl) dX11_init_17 (fun q2 H hw => ?_)
  have hw : ww A s.heap D [[(h0, .inr (11, [.ref q1, .null, .int (0 : Int32), .int (0 : Int32), .null, .int (0 : Int32), .int (0 : Int32), .null, .int (0 : Int32), .int (0 : Int32), .int (0 : Int32), .int (0 : Int32), .null, .int (0 : Int32)]))], [(q1, .inl (cA, 804, .inl (fun _ => 0)))], [(q2, .inl (cA, 3216, .inl (fun _ => 0)))]] H locs := hw
  refine k_putF (ci := 11) (v := .ref q2) (ty := .array .int) (C := RX11) (T := TX11) (N := 14) (bs1 := [[(h0, .inr (11, [.ref q1, .ref q2, .int (0 : Int32), .int (0 : Int32), .null, .int (0 : Int32), .int (0 : Int32), .null, .int (0 : Int32), .int (0 : Int32), .int (0 : Int32), .int (0 : Int32), .null, .int (0 : Int32)]))], [(q1, .inl (cA, 804, .inl (fun _ => 0)))], [(q2, .inl (cA, 3216, .inl (fun _ => 0)))]]) hx hb hts hown hz hw (by decide +kernel) tyX11 tyX11_ok nmX11 0 rfl rfl 1 (by decide) (hts (.fieldLink RX11 13 "OccupancyMonitorModel" "saved" "[I") (by decide +kernel)) (fun _ h9 => h9) rfl hnm rfl (by decide +kernel) rfl rfl (Nat.le_of_ble_eq_true rfl) dX11_init_19 rfl (fun H locs hw => ?_)
  refine lv_aload_n hx hb dX11_init_22 rfl (lv_at hl 0 rfl) ?_
  refine lv_bipush (v := 100) hx hb dX11_init_23 (by decide) ?_
  refine k_newi (N' := 100) hx hb hts hz hw hA (by decide +kernel) (by decide) (by decide) (Nat.le_of_ble_eq_true rfl) (Nat.le_of_ble_eq_true rfl) (Nat.le_of_ble_eq_true rfl) dX11_init_25 (fun q3 H hw => ?_)
  have hw : ww A s.heap D [[(h0, .inr (11, [.ref q1, .ref q2, .int (0 : Int32), .int (0 : Int32), .null, .int (0 : Int32), .int (0 : Int32), .null, .int (0 : Int32), .int (0 : Int32), .int (0 : Int32), .int (0 : Int32), .null, .int (0 : Int32)]))], [(q1, .inl (cA, 804, .inl (fun _ => 0)))], [(q2, .inl (cA, 3216, .inl (fun _ => 0)))], [(q3, .inl (cA, 100, .inl (fun _ => 0)))]] H locs := hw
  refine k_putF (ci := 11) (v := .ref q3) (ty := .array .int) (C := RX11) (T := TX11) (N := 14) (bs1 := [[(h0, .inr (11, [.ref q1, .ref q2, .int (0 : Int32), .int (0 : Int32), .ref q3, .int (0 : Int32), .int (0 : Int32), .null, .int (0 : Int32), .int (0 : Int32), .int (0 : Int32), .int (0 : Int32), .null, .int (0 : Int32)]))], [(q1, .inl (cA, 804, .inl (fun _ => 0)))], [(q2, .inl (cA, 3216, .inl (fun _ => 0)))], [(q3, .inl (cA, 100, .inl (fun _ => 0)))]]) hx hb hts hown hz hw (by decide +kernel) tyX11 tyX11_ok nmX11 0 rfl rfl 4 (by decide) (hts (.fieldLink RX11 16 "OccupancyMonitorModel" "text" "[I") (by decide +kernel)) (fun _ h9 => h9) rfl hnm rfl (by decide +kernel) rfl rfl (Nat.le_of_ble_eq_true rfl) dX11_init_27 rfl (fun H locs hw => ?_)
  refine lv_aload_n hx hb dX11_init_30 rfl (lv_at hl 0 rfl) ?_
  refine lv_bipush (v := 36) hx hb dX11_init_31 (by decide) ?_
  refine k_newi (N' := 36) hx hb hts hz hw hA (by decide +kernel) (by decide) (by decide) (Nat.le_of_ble_eq_true rfl) (Nat.le_of_ble_eq_true rfl) (Nat.le_of_ble_eq_true rfl) dX11_init_33 (fun q4 H hw => ?_)
  have hw : ww A s.heap D [[(h0, .inr (11, [.ref q1, .ref q2, .int (0 : Int32), .int (0 : Int32), .ref q3, .int (0 : Int32), .int (0 : Int32), .null, .int (0 : Int32), .int (0 : Int32), .int (0 : Int32), .int (0 : Int32), .null, .int (0 : Int32)]))], [(q1, .inl (cA, 804, .inl (fun _ => 0)))], [(q2, .inl (cA, 3216, .inl (fun _ => 0)))], [(q3, .inl (cA, 100, .inl (fun _ => 0)))], [(q4, .inl (cA, 36, .inl (fun _ => 0)))]] H locs := hw
  refine k_putF (ci := 11) (v := .ref q4) (ty := .array .int) (C := RX11) (T := TX11) (N := 14) (bs1 := [[(h0, .inr (11, [.ref q1, .ref q2, .int (0 : Int32), .int (0 : Int32), .ref q3, .int (0 : Int32), .int (0 : Int32), .ref q4, .int (0 : Int32), .int (0 : Int32), .int (0 : Int32), .int (0 : Int32), .null, .int (0 : Int32)]))], [(q1, .inl (cA, 804, .inl (fun _ => 0)))], [(q2, .inl (cA, 3216, .inl (fun _ => 0)))], [(q3, .inl (cA, 100, .inl (fun _ => 0)))], [(q4, .inl (cA, 36, .inl (fun _ => 0)))]]) hx hb hts hown hz hw (by decide +kernel) tyX11 tyX11_ok nmX11 0 rfl rfl 7 (by decide) (hts (.fieldLink RX11 19 "OccupancyMonitorModel" "read" "[I") (by decide +kernel)) (fun _ h9 => h9) rfl hnm rfl (by decide +kernel) rfl rfl (Nat.le_of_ble_eq_true rfl) dX11_init_35 rfl (fun H locs hw => ?_)
  refine lv_aload_n hx hb dX11_init_38 rfl (lv_at hl 0 rfl) ?_
  refine lv_bipush (v := 50) hx hb dX11_init_39 (by decide) ?_
  refine k_newi (N' := 50) hx hb hts hz hw hA (by decide +kernel) (by decide) (by decide) (Nat.le_of_ble_eq_true rfl) (Nat.le_of_ble_eq_true rfl) (Nat.le_of_ble_eq_true rfl) dX11_init_41 (fun q5 H hw => ?_)
  have hw : ww A s.heap D [[(h0, .inr (11, [.ref q1, .ref q2, .int (0 : Int32), .int (0 : Int32), .ref q3, .int (0 : Int32), .int (0 : Int32), .ref q4, .int (0 : Int32), .int (0 : Int32), .int (0 : Int32), .int (0 : Int32), .null, .int (0 : Int32)]))], [(q1, .inl (cA, 804, .inl (fun _ => 0)))], [(q2, .inl (cA, 3216, .inl (fun _ => 0)))], [(q3, .inl (cA, 100, .inl (fun _ => 0)))], [(q4, .inl (cA, 36, .inl (fun _ => 0)))], [(q5, .inl (cA, 50, .inl (fun _ => 0)))]] H locs := hw
  refine k_putF (ci := 11) (v := .ref q5) (ty := .array .int) (C := RX11) (T := TX11) (N := 14) (bs1 := [[(h0, .inr (11, [.ref q1, .ref q2, .int (0 : Int32), .int (0 : Int32), .ref q3, .int (0 : Int32), .int (0 : Int32), .ref q4, .int (0 : Int32), .int (0 : Int32), .int (0 : Int32), .int (0 : Int32), .ref q5, .int (0 : Int32)]))], [(q1, .inl (cA, 804, .inl (fun _ => 0)))], [(q2, .inl (cA, 3216, .inl (fun _ => 0)))], [(q3, .inl (cA, 100, .inl (fun _ => 0)))], [(q4, .inl (cA, 36, .inl (fun _ => 0)))], [(q5, .inl (cA, 50, .inl (fun _ => 0)))]]) hx hb hts hown hz hw (by decide +kernel) tyX11 tyX11_ok nmX11 0 rfl rfl 12 (by decide) (hts (.fieldLink RX11 22 "OccupancyMonitorModel" "before" "[I") (by decide +kernel)) (fun _ h9 => h9) rfl hnm rfl (by decide +kernel) rfl rfl (Nat.le_of_ble_eq_true rfl) dX11_init_43 rfl (fun H locs hw => ?_)
  refine lv_aload_n hx hb dX11_init_46 rfl (lv_at hl 0 rfl) ?_
  refine k_get (ci := 11) (v := .ref q1) (C := RX11) (T := TX11) (N := 14) hx hb hts hown hz hw (by decide +kernel) 0 rfl rfl 0 (by decide) (hts (.fieldLink RX11 7 "OccupancyMonitorModel" "all" "[I") (by decide +kernel)) (fun _ h9 => h9) rfl dX11_init_47 ?_
  refine lv_iconst (v := 1) hx hb dX11_init_50 (by decide) ?_
  refine lv_bipush (v := 10) hx hb dX11_init_51 (by decide) ?_
  obtain ⟨g6, hsp⟩ := grd_of hsp
  obtain ⟨f7, ef7⟩ : ∃ u : Nat → Int32, u = (upd (fun _ => 0) (1 : Int32).toNatClampNeg (10 : Int32)) := ⟨_, rfl⟩
  have hsp := lt_of hsp ef7
  refine k_iast (bs1 := [[(h0, .inr (11, [.ref q1, .ref q2, .int (0 : Int32), .int (0 : Int32), .ref q3, .int (0 : Int32), .int (0 : Int32), .ref q4, .int (0 : Int32), .int (0 : Int32), .int (0 : Int32), .int (0 : Int32), .ref q5, .int (0 : Int32)]))], [(q1, .inl (cA, 804, .inl f7))], [(q2, .inl (cA, 3216, .inl (fun _ => 0)))], [(q3, .inl (cA, 100, .inl (fun _ => 0)))], [(q4, .inl (cA, 36, .inl (fun _ => 0)))], [(q5, .inl (cA, 50, .inl (fun _ => 0)))]]) hx hb hz hw 1 rfl g6 dX11_init_53 (by rw [ef7]; rfl) (fun H locs hw => ?_)
  refine lv_aload_n hx hb dX11_init_54 rfl (lv_at hl 0 rfl) ?_
  refine k_get (ci := 11) (v := .ref q1) (C := RX11) (T := TX11) (N := 14) hx hb hts hown hz hw (by decide +kernel) 0 rfl rfl 0 (by decide) (hts (.fieldLink RX11 7 "OccupancyMonitorModel" "all" "[I") (by decide +kernel)) (fun _ h9 => h9) rfl dX11_init_55 ?_
  refine lv_iconst (v := 2) hx hb dX11_init_58 (by decide) ?_
  refine lv_bipush (v := 30) hx hb dX11_init_59 (by decide) ?_
  obtain ⟨g8, hsp⟩ := grd_of hsp
  obtain ⟨f9, ef9⟩ : ∃ u : Nat → Int32, u = (upd f7 (2 : Int32).toNatClampNeg (30 : Int32)) := ⟨_, rfl⟩
  have hsp := lt_of hsp ef9
  refine k_iast (bs1 := [[(h0, .inr (11, [.ref q1, .ref q2, .int (0 : Int32), .int (0 : Int32), .ref q3, .int (0 : Int32), .int (0 : Int32), .ref q4, .int (0 : Int32), .int (0 : Int32), .int (0 : Int32), .int (0 : Int32), .ref q5, .int (0 : Int32)]))], [(q1, .inl (cA, 804, .inl f9))], [(q2, .inl (cA, 3216, .inl (fun _ => 0)))], [(q3, .inl (cA, 100, .inl (fun _ => 0)))], [(q4, .inl (cA, 36, .inl (fun _ => 0)))], [(q5, .inl (cA, 50, .inl (fun _ => 0)))]]) hx hb hz hw 1 rfl g8 dX11_init_61 (by rw [ef9]; rfl) (fun H locs hw => ?_)
  refine lv_aload_n hx hb dX11_init_62 rfl (lv_at hl 0 rfl) ?_
  refine k_get (ci := 11) (v := .ref q1) (C := RX11) (T := TX11) (N := 14) hx hb hts hown hz hw (by decide +kernel) 0 rfl rfl 0 (by decide) (hts (.fieldLink RX11 7 "OccupancyMonitorModel" "all" "[I") (by decide +kernel)) (fun _ h9 => h9) rfl dX11_init_63 ?_
  refine lv_iconst (v := 3) hx hb dX11_init_66 (by decide) ?_
  refine lv_bipush (v := 10) hx hb dX11_init_67 (by decide) ?_
  obtain ⟨g10, hsp⟩ := grd_of hsp
  obtain ⟨f11, ef11⟩ : ∃ u : Nat → Int32, u = (upd f9 (3 : Int32).toNatClampNeg (10 : Int32)) := ⟨_, rfl⟩
  have hsp := lt_of hsp ef11
  refine k_iast (bs1 := [[(h0, .inr (11, [.ref q1, .ref q2, .int (0 : Int32), .int (0 : Int32), .ref q3, .int (0 : Int32), .int (0 : Int32), .ref q4, .int (0 : Int32), .int (0 : Int32), .int (0 : Int32), .int (0 : Int32), .ref q5, .int (0 : Int32)]))], [(q1, .inl (cA, 804, .inl f11))], [(q2, .inl (cA, 3216, .inl (fun _ => 0)))], [(q3, .inl (cA, 100, .inl (fun _ => 0)))], [(q4, .inl (cA, 36, .inl (fun _ => 0)))], [(q5, .inl (cA, 50, .inl (fun _ => 0)))]]) hx hb hz hw 1 rfl g10 dX11_init_69 (by rw [ef11]; rfl) (fun H locs hw => ?_)
  refine lv_aload_n hx hb dX11_init_70 rfl (lv_at hl 0 rfl) ?_
  refine k_get (ci := 11) (v := .ref q1) (C := RX11) (T := TX11) (N := 14) hx hb hts hown hz hw (by decide +kernel) 0 rfl rfl 0 (by decide) (hts (.fieldLink RX11 7 "OccupancyMonitorModel" "all" "[I") (by decide +kernel)) (fun _ h9 => h9) rfl dX11_init_71 ?_
  refine lv_iconst (v := 4) hx hb dX11_init_74 (by decide) ?_
  refine lv_iconst (v := 5) hx hb dX11_init_75 (by decide) ?_
  obtain ⟨g12, hsp⟩ := grd_of hsp
  obtain ⟨f13, ef13⟩ : ∃ u : Nat → Int32, u = (upd f11 (4 : Int32).toNatClampNeg (5 : Int32)) := ⟨_, rfl⟩
  have hsp := lt_of hsp ef13
  refine k_iast (bs1 := [[(h0, .inr (11, [.ref q1, .ref q2, .int (0 : Int32), .int (0 : Int32), .ref q3, .int (0 : Int32), .int (0 : Int32), .ref q4, .int (0 : Int32), .int (0 : Int32), .int (0 : Int32), .int (0 : Int32), .ref q5, .int (0 : Int32)]))], [(q1, .inl (cA, 804, .inl f13))], [(q2, .inl (cA, 3216, .inl (fun _ => 0)))], [(q3, .inl (cA, 100, .inl (fun _ => 0)))], [(q4, .inl (cA, 36, .inl (fun _ => 0)))], [(q5, .inl (cA, 50, .inl (fun _ => 0)))]]) hx hb hz hw 1 rfl g12 dX11_init_76 (by rw [ef13]; rfl) (fun H locs hw => ?_)
  refine lv_iconst (v := 0) hx hb dX11_init_77 (by decide) ?_
  refine lv_istore_n (lv' := [(1, .int (0 : Int32)), (0, .ref h0)]) hx hb dX11_init_78 rfl hl (by decide) rfl (fun ls hl => ?_)
  have L79 : ∀ (n79 : Nat) (z79_0 : Int32) (z79_1 : (Nat → Int32)) (o21 : Int32 × (Nat → Int32)), qX11_init_79 n79 z79_0 z79_1 = some o21 → ∀ (H : Heap) (locs : List Loc) (ls : Array Slot), ww A s.heap D [[(h0, .inr (11, [.ref q1, .ref q2, .int (0 : Int32), .int (0 : Int32), .ref q3, .int (0 : Int32), .int (0 : Int32), .ref q4, .int (0 : Int32), .int (0 : Int32), .int (0 : Int32), .int (0 : Int32), .ref q5, .int (0 : Int32)]))], [(q1, .inl (cA, 804, .inl z79_1))], [(q2, .inl (cA, 3216, .inl (fun _ => 0)))], [(q3, .inl (cA, 100, .inl (fun _ => 0)))], [(q4, .inl (cA, 36, .inl (fun _ => 0)))], [(q5, .inl (cA, 50, .inl (fun _ => 0)))]] H locs → lv_has ls 2 [(0, .ref h0), (1, .int z79_0)] → (∀ (y102 : Int32 × (Nat → Int32)), o21 = y102 → ∀ (H : Heap) (locs : List Loc) (ls : Array Slot), ww A s.heap D [[(h0, .inr (11, [.ref q1, .ref q2, .int (0 : Int32), .int (0 : Int32), .ref q3, .int (0 : Int32), .int (0 : Int32), .ref q4, .int (0 : Int32), .int (0 : Int32), .int (0 : Int32), .int (0 : Int32), .ref q5, .int (0 : Int32)]))], [(q1, .inl (cA, 804, .inl y102.2))], [(q2, .inl (cA, 3216, .inl (fun _ => 0)))], [(q3, .inl (cA, 100, .inl (fun _ => 0)))], [(q4, .inl (cA, 36, .inl (fun _ => 0)))], [(q5, .inl (cA, 50, .inl (fun _ => 0)))]] H locs → lv_has ls 2 [(0, .ref h0), (1, .int y102.1)] → W p l e rX11_init s m args below meth c H locs 5 4206 Q (F0 m 102 ls [])) → W p l e rX11_init s m args below meth c H locs 5 4206 Q (F0 m 79 ls []) := by
    intro n79
    induction n79 with
    | zero => intro z79_0 z79_1 o21 hsp; cases hsp
    | succ n79 ih79 =>
      intro z79_0 z79_1 o21 hsp H locs ls hw hl kx79_102
      have hsp : (if (32 : Int32) ≤ z79_0 then (some (z79_0, z79_1)) else (grd (vp_in ((106 : Int32) + z79_0) 804) (lt_ (upd z79_1 ((106 : Int32) + z79_0).toNatClampNeg (100 : Int32)) (fun f24 => (qX11_init_79 n79 (z79_0 + 1) f24))))) = some o21 := hsp
      refine lv_iload_n hx hb dX11_init_79 rfl (lv_at hl 1 rfl) ?_
      refine lv_bipush (v := 32) hx hb dX11_init_80 (by decide) ?_
      refine lv_icmp_ge (tgt := 102) hx hb dX11_init_82 (by decide) (fun c22 => ?_) (fun c22 => ?_)
      · have hsp := ift c22 hsp
        have hsp := Option.some.inj hsp
        subst hsp
        exact kx79_102 _ rfl _ _ _ hw (lv_sub hl [0, 1] rfl)
      · have hsp := iff_ c22 hsp
        refine lv_aload_n hx hb dX11_init_85 rfl (lv_at hl 0 rfl) ?_
        refine k_get (ci := 11) (v := .ref q1) (C := RX11) (T := TX11) (N := 14) hx hb hts hown hz hw (by decide +kernel) 0 rfl rfl 0 (by decide) (hts (.fieldLink RX11 7 "OccupancyMonitorModel" "all" "[I") (by decide +kernel)) (fun _ h9 => h9) rfl dX11_init_86 ?_
        refine lv_bipush (v := 106) hx hb dX11_init_89 (by decide) ?_
        refine lv_iload_n hx hb dX11_init_91 rfl (lv_at hl 1 rfl) ?_
        refine lv_iadd hx hb dX11_init_92 ?_
        refine lv_bipush (v := 100) hx hb dX11_init_93 (by decide) ?_
        obtain ⟨g23, hsp⟩ := grd_of hsp
        obtain ⟨f24, ef24⟩ : ∃ u : Nat → Int32, u = (upd z79_1 ((106 : Int32) + z79_0).toNatClampNeg (100 : Int32)) := ⟨_, rfl⟩
        have hsp := lt_of hsp ef24
        refine k_iast (bs1 := [[(h0, .inr (11, [.ref q1, .ref q2, .int (0 : Int32), .int (0 : Int32), .ref q3, .int (0 : Int32), .int (0 : Int32), .ref q4, .int (0 : Int32), .int (0 : Int32), .int (0 : Int32), .int (0 : Int32), .ref q5, .int (0 : Int32)]))], [(q1, .inl (cA, 804, .inl f24))], [(q2, .inl (cA, 3216, .inl (fun _ => 0)))], [(q3, .inl (cA, 100, .inl (fun _ => 0)))], [(q4, .inl (cA, 36, .inl (fun _ => 0)))], [(q5, .inl (cA, 50, .inl (fun _ => 0)))]]) hx hb hz hw 1 rfl g23 dX11_init_95 (by rw [ef24]; rfl) (fun H locs hw => ?_)
        refine lv_iinc (v := (z79_0 + 1)) (lv' := [(1, .int (z79_0 + 1)), (0, .ref h0)]) hx hb dX11_init_96 hl (k := 1) rfl rfl (by decide) rfl (fun ls hl => ?_)
        refine lv_goto (tgt := 79) hx hb dX11_init_99 (by decide) ?_
        exact ih79 (z79_0 + 1) f24 _ hsp _ _ _ hw (lv_sub hl [1, 0] rfl) kx79_102
  obtain ⟨o21, hso21, hsp⟩ := bnd_of hsp
  refine L79 N (0 : Int32) f13 _ hso21 _ _ _ hw (lv_sub hl [1, 0] rfl) (fun y102 hy102 H locs ls hw hl => ?_)
  cases hy102
  refine lv_aload_n hx hb dX11_init_102 rfl (lv_at hl 0 rfl) ?_
  have hw : ww A s.heap D [w11 cA (h0, q1, q2, q3, q4, q5) ((804, o21.2), (3216, (fun _ => 0)), (0 : Int32), (0 : Int32), (100, (fun _ => 0)), (0 : Int32), (0 : Int32), (36, (fun _ => 0)), (0 : Int32), (0 : Int32), (0 : Int32), (0 : Int32), (50, (fun _ => 0)), (0 : Int32))] H locs := hw
  obtain ⟨o25, hso25, hsp⟩ := bnd_of hsp
  refine k_callV (ci := 11) (C := RX11) (T := TX11) (N := 14) (nA := 0) (As := []) (cs := [w11 cA (h0, q1, q2, q3, q4, q5) ((804, o21.2), (3216, (fun _ => 0)), (0 : Int32), (0 : Int32), (100, (fun _ => 0)), (0 : Int32), (0 : Int32), (36, (fun _ => 0)), (0 : Int32), (0 : Int32), (0 : Int32), (0 : Int32), (50, (fun _ => 0)), (0 : Int32))]) (rs := []) (cs1 := [w11 cA (h0, q1, q2, q3, q4, q5) o25]) (bs1 := [w11 cA (h0, q1, q2, q3, q4, q5) o25]) (rest := []) (st1 := []) ⟨hx, hb, hml, hown, hts⟩ hz hw hA (mX11_clears l D cA cR N (h0, q1, q2, q3, q4, q5) ((804, o21.2), (3216, (fun _ => 0)), (0 : Int32), (0 : Int32), (100, (fun _ => 0)), (0 : Int32), (0 : Int32), (36, (fun _ => 0)), (0 : Int32), (0 : Int32), (0 : Int32), (0 : Int32), (50, (fun _ => 0)), (0 : Int32)) o25 hso25) gX11_init_X11_clears rfl rfl rfl (by decide +kernel) rfl ⟨Nat.le_of_ble_eq_true rfl, Nat.le_of_ble_eq_true rfl⟩ rfl rfl hl.1 rfl (Nat.le_of_ble_eq_true rfl) dX11_init_103 ⟨Nat.le_of_ble_eq_true rfl, Nat.le_of_ble_eq_true rfl⟩ [0] [] [0] rfl rfl rfl rfl rfl rfl (fun H locs hw => ?_)
  have hw : ww A s.heap D [[(h0, .inr (11, [.ref q1, .ref q2, .int o25.2.2.1, .int o25.2.2.2.1, .ref q3, .int o25.2.2.2.2.2.1, .int o25.2.2.2.2.2.2.1, .ref q4, .int o25.2.2.2.2.2.2.2.2.1, .int o25.2.2.2.2.2.2.2.2.2.1, .int o25.2.2.2.2.2.2.2.2.2.2.1, .int o25.2.2.2.2.2.2.2.2.2.2.2.1, .ref q5, .int o25.2.2.2.2.2.2.2.2.2.2.2.2.2]))], [(q1, .inl (cA, o25.1.1, .inl o25.1.2))], [(q2, .inl (cA, o25.2.1.1, .inl o25.2.1.2))], [(q3, .inl (cA, o25.2.2.2.2.1.1, .inl o25.2.2.2.2.1.2))], [(q4, .inl (cA, o25.2.2.2.2.2.2.2.1.1, .inl o25.2.2.2.2.2.2.2.1.2))], [(q5, .inl (cA, o25.2.2.2.2.2.2.2.2.2.2.2.2.1.1, .inl o25.2.2.2.2.2.2.2.2.2.2.2.2.1.2))]] H locs := hw
  have hsp := Option.some.inj hsp
  subst hsp
  have hw : ww A s.heap D [w11 cA (h0, q1, q2, q3, q4, q5) ((o25.1.1, o25.1.2), (o25.2.1.1, o25.2.1.2), o25.2.2.1, o25.2.2.2.1, (o25.2.2.2.2.1.1, o25.2.2.2.2.1.2), o25.2.2.2.2.2.1, o25.2.2.2.2.2.2.1, (o25.2.2.2.2.2.2.2.1.1, o25.2.2.2.2.2.2.2.1.2), o25.2.2.2.2.2.2.2.2.1, o25.2.2.2.2.2.2.2.2.2.1, o25.2.2.2.2.2.2.2.2.2.2.1, o25.2.2.2.2.2.2.2.2.2.2.2.1, (o25.2.2.2.2.2.2.2.2.2.2.2.2.1.1, o25.2.2.2.2.2.2.2.2.2.2.2.2.1.2), o25.2.2.2.2.2.2.2.2.2.2.2.2.2)] H locs := hw
  subst hQ
  exact k_vretE (q1, q2, q3, q4, q5) hx hb hr hlk hw dX11_init_106
