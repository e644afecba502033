/-! the law's loop -/
theorem ll_test {L k : Nat} (hL : L ≤ 3072) (hk : k ≤ 3072) : (Int32.ofNat L - (6 : Int32) < nI k) ↔ L < k + 6 := by
  rw [fa_lt]
  show (nI L - nI 6).toInt < (nI k).toInt ↔ _
  rw [Int32.toInt_sub, nI_toInt (by omega), nI_toInt (by omega), nI_toInt (by omega)]
  rw [Int.bmod_eq_of_le (by omega) (by omega)]
  omega
theorem RR.idle {cn : Nat} {v : V10} {w : V11} (h : RR cn v w) : RR (cn + 1) v w := h.th w.2.2.2.1
set_option maxHeartbeats 4000000 in
set_option maxRecDepth 100000 in
theorem law_loop {p : Program} {l : Launch} {e : Env} {s : State} {m : MethodId} {below : List Frame} {meth : Method} {c : Code} {D : va_G} {cA cR cL cF : ClassId} {b L : Nat} {xs : Nat → Int32} {N : Nat} (hN : 5000 ≤ N) (X : LX p l s m c b L xs D cA cR cL cF) (hL : L ≤ 3072) {k0 s0 : Nat} (hk0 : k0 ≤ 500000) (hs0 : s0 ≤ 7000000) {a0 : A10} {a1 : A11} {q3 q4 : Nat} {Q : State → Prop}
    (fin : ∀ (H : Heap) (locs : List Loc) (ls : Array Slot), (∀ q ∈ locs, s.heap.size ≤ q.base) → W p l e room_1 s m #[Value.ref b] below meth c H locs 601024 7293034 Q (F0 m 1553 ls [])) :
    ∀ (n cn : Nat) (v : V10) (w : V11) (f3 : Nat → Int64) (f4 : Nat → UInt64) (H : Heap) (locs : List Loc) (ls : Array Slot), L ≤ 6 * cn + 6 * n → 6 * cn ≤ 3072 → RR cn v w → ww (fun q : Nat => s.heap.size ≤ q) s.heap D [w10 cA cR a0 v, w11 cA a1 w, [(q3, .inl (cL, 1, .inr (.inl f3)))], [(q4, .inl (cF, 1, .inr (.inr (.inr (.inl f4)))))]] H locs → lv_has ls 9 [(0, .ref b), (1, .ref a0.1), (2, .ref a1.1), (3, .ref q3), (4, .ref q4), (5, .int (nI (6 * cn)))] → W p l e room_1 s m #[Value.ref b] below meth c H locs (k0 + cn) (s0 + 6 * cn) Q (F0 m 28 ls []) := by
  have X0 := X
  obtain ⟨hx, hb, hml, hown, hts, hX, hbl, hz, hzl, hzx, hlt⟩ := X
  have hbA : ¬ (fun q : Nat => s.heap.size ≤ q) b := Nat.not_le.mpr hbl
  have EX : ∀ (cn : Nat) (bs : List va_W) (H : Heap) (locs : List Loc) (ls : Array Slot), 6 * cn ≤ 3072 → ww (fun q : Nat => s.heap.size ≤ q) s.heap D bs H locs → W p l e room_1 s m #[Value.ref b] below meth c H locs (k0 + cn) (s0 + 6 * cn) Q (F0 m 1553 ls []) := fun cn bs H locs ls h1 h2 => W.widen (k := 601024) (n := 7293034) (by omega) (by omega) (fin H locs ls (fun q hq => h2.2.2.2.2 q hq))
  intro n
  induction n with
  | zero =>
    intro cn v w f3 f4 H locs ls h1 h2 hR hw hl
    refine lv_iload hx hb dL_law_28 (lv_at hl 5 rfl) ?_
    refine lv_aload_n hx hb dL_law_30 rfl (lv_at hl 0 rfl) ?_
    refine va_slen hx hb hX hbl hbA hw.2.2 dL_law_31 ?_
    refine lv_bipush (v := 6) hx hb dL_law_32 (by decide) ?_
    refine lv_isub hx hb dL_law_34 ?_
    refine lv_icmp_gt (tgt := 1553) hx hb dL_law_35 (by decide) (fun _ => EX cn _ H locs ls h2 hw) (fun cc => absurd ((ll_test hL h2).mpr (by omega)) cc)
  | succ n ih =>
    intro cn v w f3 f4 H locs ls h1 h2 hR hw hl
    refine lv_iload hx hb dL_law_28 (lv_at hl 5 rfl) ?_
    refine lv_aload_n hx hb dL_law_30 rfl (lv_at hl 0 rfl) ?_
    refine va_slen hx hb hX hbl hbA hw.2.2 dL_law_31 ?_
    refine lv_bipush (v := 6) hx hb dL_law_32 (by decide) ?_
    refine lv_isub hx hb dL_law_34 ?_
    refine lv_icmp_gt (tgt := 1553) hx hb dL_law_35 (by decide) (fun _ => EX cn _ H locs ls h2 hw) (fun cc => ?_)
    have hb6 : 6 * cn + 6 ≤ L := Nat.not_lt.mp (fun q => cc ((ll_test hL h2).mpr q))
    have hi : ∀ j, j < 6 → vp_in (nI (6 * cn) + nI j) L := fun j hj => by rw [nI_add]; exact vp_in_nI (by omega) (by omega)
    have back : ∀ (v : V10) (w : V11) (f3 : Nat → Int64) (f4 : Nat → UInt64) (H : Heap) (locs : List Loc) (ls : Array Slot), RR (cn + 1) v w → ww (fun q : Nat => s.heap.size ≤ q) s.heap D [w10 cA cR a0 v, w11 cA a1 w, [(q3, .inl (cL, 1, .inr (.inl f3)))], [(q4, .inl (cF, 1, .inr (.inr (.inr (.inl f4)))))]] H locs → lv_has ls 9 [(0, .ref b), (1, .ref a0.1), (2, .ref a1.1), (3, .ref q3), (4, .ref q4), (5, .int (nI (6 * cn)))] → W p l e room_1 s m #[Value.ref b] below meth c H locs (k0 + cn + 1) (s0 + 6 * cn + 6) Q (F0 m 1547 ls []) := by
      intro v w f3 f4 H locs ls hR hw hl
      refine lv_iinc (v := nI (6 * (cn + 1))) (lv' := [(5, .int (nI (6 * (cn + 1)))), (0, .ref b), (1, .ref a0.1), (2, .ref a1.1), (3, .ref q3), (4, .ref q4)]) (k := 5) hx hb dL_law_1547 hl rfl (by show nI (6 * cn) + nI 6 = _; rw [nI_add]; rfl) (by decide) rfl (fun ls hl => ?_)
      refine lv_goto (tgt := 28) hx hb dL_law_1550 (by decide) ?_
      exact ih (cn + 1) v w f3 f4 H locs ls (by omega) (by omega) hR hw (lv_sub hl [1, 2, 3, 4, 5, 0] rfl)
    refine lv_aload_n hx hb dL_law_38 rfl (lv_at hl 0 rfl) ?_
    refine lv_iload hx hb dL_law_39 (lv_at hl 5 rfl) ?_
    refine va_sld hx hb hX hbl hbA hw.2.2 (vp_in_nI (by omega) (by omega)) dL_law_41 ?_
    refine lv_bipush (v := 31) hx hb dL_law_42 (by decide) ?_
    refine lv_iand hx hb dL_law_44 ?_
    refine lv_topi (fun z _ => ?_)
    by_cases hz0 : z.toInt < 0 ∨ 26 < z.toInt
    · refine lv_tableOut (tgt := 1547) hx hb dL_law_45 hz0 (by decide) ?_
      exact W.widen (k := k0 + cn + 1) (n := s0 + 6 * cn + 6) (by omega) (by omega) (back v w f3 f4 H locs ls hR.idle hw hl)
    have hkk : k0 + cn + 1 ≤ 601024 := by omega
    have hss : s0 + 6 * cn + 6 ≤ 7293034 := by omega
    have hcn : cn < 512 := by omega
    have hn1 : ¬ z.toInt < 0 := fun q => hz0 (Or.inl q)
    have hn2 : ¬ 26 < z.toInt := fun q => hz0 (Or.inr q)
    rcases (show z.toInt = 0 ∨ z.toInt = 1 ∨ z.toInt = 2 ∨ z.toInt = 3 ∨ z.toInt = 4 ∨ z.toInt = 5 ∨ z.toInt = 6 ∨ z.toInt = 7 ∨ z.toInt = 8 ∨ z.toInt = 9 ∨ z.toInt = 10 ∨ z.toInt = 11 ∨ z.toInt = 12 ∨ z.toInt = 13 ∨ z.toInt = 14 ∨ z.toInt = 15 ∨ z.toInt = 16 ∨ z.toInt = 17 ∨ z.toInt = 18 ∨ z.toInt = 19 ∨ z.toInt = 20 ∨ z.toInt = 21 ∨ z.toInt = 22 ∨ z.toInt = 23 ∨ z.toInt = 24 ∨ z.toInt = 25 ∨ z.toInt = 26 by omega) with h | h | h | h | h | h | h | h | h | h | h | h | h | h | h | h | h | h | h | h | h | h | h | h | h | h | h
    · exact lv_tableIn (tgt := 168) (off := 123) hx hb dL_law_45 hn1 hn2 (by rw [h]; rfl) (by decide) (lk_0 (pu_addPulsed hN) X0 hkk hss hcn (hi 1 (by decide)) rfl (hi 2 (by decide)) rfl (hi 3 (by decide)) rfl (hi 4 (by decide)) rfl (hi 5 (by decide)) rfl hR hw hl back)
    · exact lv_tableIn (tgt := 272) (off := 227) hx hb dL_law_45 hn1 hn2 (by rw [h]; rfl) (by decide) (lk_1 (pu_addHopping hN) X0 hkk hss hcn (hi 1 (by decide)) rfl (hi 2 (by decide)) rfl (hi 3 (by decide)) rfl (hi 4 (by decide)) rfl (hi 5 (by decide)) rfl hR hw hl back)
    · exact lv_tableIn (tgt := 376) (off := 331) hx hb dL_law_45 hn1 hn2 (by rw [h]; rfl) (by decide) (lk_2 (pu_removeSignal hN) X0 hkk hss hcn (hi 1 (by decide)) rfl hR hw hl back)
    · exact lv_tableIn (tgt := 432) (off := 387) hx hb dL_law_45 hn1 hn2 (by rw [h]; rfl) (by decide) (lk_3 (pu_setLevels hN) X0 hkk hss hcn (hi 1 (by decide)) rfl (hi 2 (by decide)) rfl hR hw hl back)
    · exact lv_tableIn (tgt := 500) (off := 455) hx hb dL_law_45 hn1 hn2 (by rw [h]; rfl) (by decide) (lk_4 (pu_setMask hN) X0 hkk hss hcn (hi 1 (by decide)) rfl (hi 2 (by decide)) rfl (hi 3 (by decide)) rfl hR hw hl back)
    · exact lv_tableIn (tgt := 580) (off := 535) hx hb dL_law_45 hn1 hn2 (by rw [h]; rfl) (by decide) (lk_5 (pu_setHops hN) X0 hkk hss hcn (hi 1 (by decide)) rfl (hi 2 (by decide)) rfl hR hw hl back)
    · exact lv_tableIn (tgt := 648) (off := 603) hx hb dL_law_45 hn1 hn2 (by rw [h]; rfl) (by decide) (lk_6 (pu_append (N := N)) X0 hkk hss hcn (hi 1 (by decide)) rfl hR hw hl back)
    · exact lv_tableIn (tgt := 704) (off := 659) hx hb dL_law_45 hn1 hn2 (by rw [h]; rfl) (by decide) (lk_7 (pu_clearText (N := N)) X0 hkk hss hcn hR hw hl back)
    · exact lv_tableIn (tgt := 717) (off := 672) hx hb dL_law_45 hn1 hn2 (by rw [h]; rfl) (by decide) (lk_8 (pu_parsePlan hN) X0 hkk hss hcn hR hw hl back)
    · exact lv_tableIn (tgt := 730) (off := 685) hx hb dL_law_45 hn1 hn2 (by rw [h]; rfl) (by decide) (lk_9 (pu_steps (N := N)) X0 hkk hss hcn hR hw hl back)
    · exact lv_tableIn (tgt := 743) (off := 698) hx hb dL_law_45 hn1 hn2 (by rw [h]; rfl) (by decide) (lk_10 (pu_step (N := N)) X0 hkk hss hcn (hi 1 (by decide)) rfl (hi 2 (by decide)) rfl hR hw hl back)
    · exact lv_tableIn (tgt := 811) (off := 766) hx hb dL_law_45 hn1 hn2 (by rw [h]; rfl) (by decide) (lk_11 (pu_planByte hN) X0 hkk hss hcn (hi 1 (by decide)) rfl hR hw hl back)
    · exact lv_tableIn (tgt := 867) (off := 822) hx hb dL_law_45 hn1 hn2 (by rw [h]; rfl) (by decide) (lk_12 (pu_revisit hN) X0 hkk hss hcn (hi 1 (by decide)) rfl hR hw hl back)
    · exact lv_tableIn (tgt := 923) (off := 878) hx hb dL_law_45 hn1 hn2 (by rw [h]; rfl) (by decide) (lk_13 (pu_run hN) X0 hkk hss hcn (hi 1 (by decide)) rfl hR hw hl back)
    · exact lv_tableIn (tgt := 979) (off := 934) hx hb dL_law_45 hn1 hn2 (by rw [h]; rfl) (by decide) (lk_14 (pu_presentStep (N := N)) X0 hkk hss hcn hR hw hl back)
    · exact lv_tableIn (tgt := 992) (off := 947) hx hb dL_law_45 hn1 hn2 (by rw [h]; rfl) (by decide) (lk_15 (pu_level hN) X0 hkk hss hcn (hi 1 (by decide)) rfl hR hw hl back)
    · exact lv_tableIn (tgt := 1048) (off := 1003) hx hb dL_law_45 hn1 hn2 (by rw [h]; rfl) (by decide) (lk_16 (pu_detector (N := N)) X0 hkk hss hcn (hi 1 (by decide)) rfl (hi 2 (by decide)) rfl hR hw hl back)
    · exact lv_tableIn (tgt := 1116) (off := 1071) hx hb dL_law_45 hn1 hn2 (by rw [h]; rfl) (by decide) (lk_17 (pu_average hN) X0 hkk hss hcn (hi 1 (by decide)) rfl hR hw hl back)
    · exact lv_tableIn (tgt := 1172) (off := 1127) hx hb dL_law_45 hn1 hn2 (by rw [h]; rfl) (by decide) (lk_18 (pu_occupancy (N := N)) X0 hkk hss hcn (hi 1 (by decide)) rfl hR hw hl back)
    · exact lv_tableIn (tgt := 1249) (off := 1204) hx hb dL_law_45 hn1 hn2 (by rw [h]; rfl) (by decide) (lk_19 (pu_reset hN) X0 hkk hss hcn hR hw hl back)
    · exact lv_tableIn (tgt := 1262) (off := 1217) hx hb dL_law_45 hn1 hn2 (by rw [h]; rfl) (by decide) (lk_20 (pu_events (N := N)) X0 hkk hss hcn hR hw hl back)
    · exact lv_tableIn (tgt := 1275) (off := 1230) hx hb dL_law_45 hn1 hn2 (by rw [h]; rfl) (by decide) (lk_21 (pu_event hN) X0 hkk hss hcn (hi 1 (by decide)) rfl (hi 2 (by decide)) rfl hR hw hl back)
    · exact lv_tableIn (tgt := 1343) (off := 1298) hx hb dL_law_45 hn1 hn2 (by rw [h]; rfl) (by decide) (lk_22 (pu_chainLength hN) X0 hkk hss hcn (hi 1 (by decide)) rfl hR hw hl back)
    · exact lv_tableIn (tgt := 1399) (off := 1354) hx hb dL_law_45 hn1 hn2 (by rw [h]; rfl) (by decide) (lk_23 (pu_chains hN) X0 hkk hss hcn hR hw hl back)
    · exact lv_tableIn (tgt := 1412) (off := 1367) hx hb dL_law_45 hn1 hn2 (by rw [h]; rfl) (by decide) (lk_24 (pu_hopInterval hN) X0 hkk hss hcn (hi 1 (by decide)) rfl hR hw hl back)
    · exact lv_tableIn (tgt := 1489) (off := 1444) hx hb dL_law_45 hn1 hn2 (by rw [h]; rfl) (by decide) (lk_25 (pu_undo hN) X0 hkk hss hcn hR hw hl back)
    · exact lv_tableIn (tgt := 1533) (off := 1488) hx hb dL_law_45 hn1 hn2 (by rw [h]; rfl) (by decide) (lk_26 (pu_digest hN) X0 hkk hss hcn hR hw hl back)
