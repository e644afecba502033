set_option maxHeartbeats 4000000 in
set_option maxRecDepth 100000 in
theorem lk_0 {p : Program} {l : Launch} {e : Env} {s : State} {m : MethodId} {below : List Frame} {meth : Method} {c : Code} {D : va_G} {cA cR cL cF : ClassId} {b L : Nat} {xs : Nat → Int32} {RR : Nat → V10 → V11 → Prop} {N : Nat} (hpu : PU_addPulsed RR N) (X : LX p l s m c b L xs D cA cR cL cF) {k0 s0 : Nat} (hk0 : k0 + 1 ≤ 601024) (hs0 : s0 + 6 ≤ 7293034) {cn : Nat} (hcn : cn < 512) {x5 : Int32} {p1 : Int32} (h1 : vp_in (x5 + 1) L) (e1 : xs (x5 + 1).toNatClampNeg = p1) {p2 : Int32} (h2 : vp_in (x5 + 2) L) (e2 : xs (x5 + 2).toNatClampNeg = p2) {p3 : Int32} (h3 : vp_in (x5 + 3) L) (e3 : xs (x5 + 3).toNatClampNeg = p3) {p4 : Int32} (h4 : vp_in (x5 + 4) L) (e4 : xs (x5 + 4).toNatClampNeg = p4) {p5 : Int32} (h5 : vp_in (x5 + 5) L) (e5 : xs (x5 + 5).toNatClampNeg = p5) {v : V10} {w : V11} {a0 : A10} {a1 : A11} {q3 q4 : Nat} {f3 : Nat → Int64} {f4 : Nat → UInt64} {H : Heap} {locs : List Loc} {ls : Array Slot} {Q : State → Prop} (hR : RR cn v w) (hw : ww (fun q : Nat => s.heap.size ≤ q) s.heap D [w10 cA cR a0 v, w11 cA a1 w, [(q3, .inl (cL, 1, .inr (.inl f3)))], [(q4, .inl (cF, 1, .inr (.inr (.inr (.inl f4)))))]] H locs) (hl : lv_has ls 9 [(0, .ref b), (1, .ref a0.1), (2, .ref a1.1), (3, .ref q3), (4, .ref q4), (5, .int x5)])
    (kk : ∀ (v : V10) (w : V11) (f3 : Nat → Int64) (f4 : Nat → UInt64) (H : Heap) (locs : List Loc) (ls : Array Slot), RR (cn + 1) v w → ww (fun q : Nat => s.heap.size ≤ q) s.heap D [w10 cA cR a0 v, w11 cA a1 w, [(q3, .inl (cL, 1, .inr (.inl f3)))], [(q4, .inl (cF, 1, .inr (.inr (.inr (.inl f4)))))]] H locs → lv_has ls 9 [(0, .ref b), (1, .ref a0.1), (2, .ref a1.1), (3, .ref q3), (4, .ref q4), (5, .int x5)] → W p l e room_1 s m #[Value.ref b] below meth c H locs (k0 + 1) (s0 + 6) Q (F0 m 1547 ls [])) : W p l e room_1 s m #[Value.ref b] below meth c H locs k0 s0 Q (F0 m 168 ls []) := by
  obtain ⟨hx, hb, hml, hown, hts, hX, hbl, hz, hzl, hzx, hlt⟩ := X
  have hA : ∀ q : Nat, s.heap.size ≤ q → (fun q : Nat => s.heap.size ≤ q) q := fun _ h => h
  have hbA : ¬ (fun q : Nat => s.heap.size ≤ q) b := Nat.not_le.mpr hbl
  rcases hpu cn v w p1 p2 p3 p4 p5 hcn hR with ⟨u, z, hu, hz1, hth, hret, hR⟩ | ⟨z, hu, hz1, hth, hR⟩ | ⟨z, hu, hz1, hth, hR⟩
  · skip
    refine lv_aload_n hx hb dL_law_168 rfl (lv_at hl 1 rfl) ?_
    refine lv_aload_n hx hb dL_law_169 rfl (lv_at hl 0 rfl) ?_
    refine lv_iload hx hb dL_law_170 (lv_at hl 5 rfl) ?_
    refine lv_iconst (v := 1) hx hb dL_law_172 (by decide) ?_
    refine lv_iadd hx hb dL_law_173 ?_
    refine va_sld hx hb hX hbl hbA hw.2.2 h1 dL_law_174 ?_
    refine lv_topi (fun y ey => ?_)
    obtain rfl : p1 = y := (ey.trans e1).symm
    refine lv_aload_n hx hb dL_law_175 rfl (lv_at hl 0 rfl) ?_
    refine lv_iload hx hb dL_law_176 (lv_at hl 5 rfl) ?_
    refine lv_iconst (v := 2) hx hb dL_law_178 (by decide) ?_
    refine lv_iadd hx hb dL_law_179 ?_
    refine va_sld hx hb hX hbl hbA hw.2.2 h2 dL_law_180 ?_
    refine lv_topi (fun y ey => ?_)
    obtain rfl : p2 = y := (ey.trans e2).symm
    refine lv_aload_n hx hb dL_law_181 rfl (lv_at hl 0 rfl) ?_
    refine lv_iload hx hb dL_law_182 (lv_at hl 5 rfl) ?_
    refine lv_iconst (v := 3) hx hb dL_law_184 (by decide) ?_
    refine lv_iadd hx hb dL_law_185 ?_
    refine va_sld hx hb hX hbl hbA hw.2.2 h3 dL_law_186 ?_
    refine lv_topi (fun y ey => ?_)
    obtain rfl : p3 = y := (ey.trans e3).symm
    refine lv_aload_n hx hb dL_law_187 rfl (lv_at hl 0 rfl) ?_
    refine lv_iload hx hb dL_law_188 (lv_at hl 5 rfl) ?_
    refine lv_iconst (v := 4) hx hb dL_law_190 (by decide) ?_
    refine lv_iadd hx hb dL_law_191 ?_
    refine va_sld hx hb hX hbl hbA hw.2.2 h4 dL_law_192 ?_
    refine lv_topi (fun y ey => ?_)
    obtain rfl : p4 = y := (ey.trans e4).symm
    refine lv_aload_n hx hb dL_law_193 rfl (lv_at hl 0 rfl) ?_
    refine lv_iload hx hb dL_law_194 (lv_at hl 5 rfl) ?_
    refine lv_iconst (v := 5) hx hb dL_law_196 (by decide) ?_
    refine lv_iadd hx hb dL_law_197 ?_
    refine va_sld hx hb hX hbl hbA hw.2.2 h5 dL_law_198 ?_
    refine lv_topi (fun y ey => ?_)
    obtain rfl : p5 = y := (ey.trans e5).symm
    refine lv_aload_n hx hb dL_law_199 rfl (lv_at hl 3 rfl) ?_
    refine k_call (cs := [w10 cA cR a0 v, [(q3, .inl (cL, 1, .inr (.inl f3)))]]) (rs := [w11 cA a1 w, [(q4, .inl (cF, 1, .inr (.inr (.inr (.inl f4)))))]]) (cs1 := [w10 cA cR a0 u.2, [(q3, .inl (cL, 1, .inr (.inl (vp_updL f3 (0 : Int32).toNatClampNeg u.1.toInt64))))]]) (bs1 := [w10 cA cR a0 u.2, w11 cA a1 w, [(q3, .inl (cL, 1, .inr (.inl (vp_updL f3 (0 : Int32).toNatClampNeg u.1.toInt64))))], [(q4, .inl (cF, 1, .inr (.inr (.inr (.inl f4)))))]]) (rest := []) (st1 := [.int (0 : Int32)]) hw hA [0, 2] [1, 3] [2, 0, 3, 1] rfl rfl rfl rfl rfl (k_runL (nA := 7) (As := [.ref a0.1, .int p1, .int p2, .int p3, .int p4, .int p5, .ref q3]) (cs := [w10 cA cR a0 v, [(q3, .inl (cL, 1, .inr (.inl f3)))]]) (rs := [w11 cA a1 w, [(q4, .inl (cF, 1, .inr (.inr (.inr (.inl f4)))))]]) (rest := []) ⟨hx, hb, hml, hown, hts⟩ hz hzl hzx hw hA (mL_addPulsed l D cA cR cL cF  a0 v p1 p2 p3 p4 p5 q3 f3 u hu) gL_law_L_addPulsed rfl rfl rfl (by decide +kernel) rfl ⟨Nat.le_of_ble_eq_true rfl, Nat.le_of_ble_eq_true rfl⟩ hl.1 rfl (Nat.le_of_ble_eq_true rfl) dL_law_200 ⟨(by show _ ≤ 601024; omega), (by show _ ≤ 7293034; omega)⟩ [0, 2] [1, 3] rfl rfl rfl) rfl (fun H locs hw => ?_)
    refine lv_istore (lv' := [(6, .int (0 : Int32)), (0, .ref b), (1, .ref a0.1), (2, .ref a1.1), (3, .ref q3), (4, .ref q4), (5, .int x5)]) hx hb dL_law_203 hl (by decide) rfl (fun ls hl => ?_)
    refine lv_aload_n hx hb dL_law_205 rfl (lv_at hl 3 rfl) ?_
    refine lv_aload_n hx hb dL_law_206 rfl (lv_at hl 1 rfl) ?_
    refine lv_iload hx hb dL_law_207 (lv_at hl 6 rfl) ?_
    refine lv_iconst (v := 1) hx hb dL_law_209 (by decide) ?_
    refine lv_iadd hx hb dL_law_210 ?_
    refine va_sld hx hb hX hbl hbA hw.2.2 h1 dL_law_211 ?_
    refine lv_topi (fun y ey => ?_)
    obtain rfl : p1 = y := (ey.trans e1).symm
    refine lv_aload_n hx hb dL_law_212 rfl (lv_at hl 1 rfl) ?_
    refine lv_iload hx hb dL_law_213 (lv_at hl 6 rfl) ?_
    refine lv_iconst (v := 2) hx hb dL_law_215 (by decide) ?_
    refine lv_iadd hx hb dL_law_216 ?_
    refine va_sld hx hb hX hbl hbA hw.2.2 h2 dL_law_217 ?_
    refine lv_topi (fun y ey => ?_)
    obtain rfl : p2 = y := (ey.trans e2).symm
    refine lv_aload_n hx hb dL_law_218 rfl (lv_at hl 1 rfl) ?_
    refine lv_iload hx hb dL_law_219 (lv_at hl 6 rfl) ?_
    refine lv_iconst (v := 3) hx hb dL_law_221 (by decide) ?_
    refine lv_iadd hx hb dL_law_222 ?_
    refine va_sld hx hb hX hbl hbA hw.2.2 h3 dL_law_223 ?_
    refine lv_topi (fun y ey => ?_)
    obtain rfl : p3 = y := (ey.trans e3).symm
    refine lv_aload_n hx hb dL_law_224 rfl (lv_at hl 1 rfl) ?_
    refine lv_iload hx hb dL_law_225 (lv_at hl 6 rfl) ?_
    refine lv_iconst (v := 4) hx hb dL_law_227 (by decide) ?_
    refine lv_iadd hx hb dL_law_228 ?_
    refine va_sld hx hb hX hbl hbA hw.2.2 h4 dL_law_229 ?_
    refine lv_topi (fun y ey => ?_)
    obtain rfl : p4 = y := (ey.trans e4).symm
    refine lv_aload_n hx hb dL_law_230 rfl (lv_at hl 1 rfl) ?_
    refine lv_iload hx hb dL_law_231 (lv_at hl 6 rfl) ?_
    refine lv_iconst (v := 5) hx hb dL_law_233 (by decide) ?_
    refine lv_iadd hx hb dL_law_234 ?_
    refine va_sld hx hb hX hbl hbA hw.2.2 h5 dL_law_235 ?_
    refine lv_topi (fun y ey => ?_)
    obtain rfl : p5 = y := (ey.trans e5).symm
    refine k_callV (ci := 11) (C := RX11) (T := TX11) (N := 14) (nA := 5) (As := [.int p1, .int p2, .int p3, .int p4, .int p5]) (cs := [w11 cA a1 w]) (rs := [w10 cA cR a0 u.2, [(q3, .inl (cL, 1, .inr (.inl (vp_updL f3 (0 : Int32).toNatClampNeg u.1.toInt64))))], [(q4, .inl (cF, 1, .inr (.inr (.inr (.inl f4)))))]]) (cs1 := [w11 cA a1 z.2]) (bs1 := [w10 cA cR a0 u.2, w11 cA a1 z.2, [(q3, .inl (cL, 1, .inr (.inl (vp_updL f3 (0 : Int32).toNatClampNeg u.1.toInt64))))], [(q4, .inl (cF, 1, .inr (.inr (.inr (.inl f4)))))]]) (rest := []) (st1 := [.int z.1]) ⟨hx, hb, hml, hown, hts⟩ hz hw hA (mX11_addPulsed l D cA cR N a1 w p1 p2 p3 p4 p5 z hz1) gL_law_X11_addPulsed rfl rfl rfl (by decide +kernel) rfl ⟨Nat.le_of_ble_eq_true rfl, Nat.le_of_ble_eq_true rfl⟩ rfl rfl hl.1 rfl (Nat.le_of_ble_eq_true rfl) dL_law_236 ⟨(by show _ ≤ 601024; omega), (by show _ ≤ 7293034; omega)⟩ [1] [0, 2, 3] [0, 3, 1, 2] rfl rfl rfl rfl rfl rfl (fun H locs hw => ?_)
    refine lv_istore (lv' := [(7, .int z.1), (6, .int (0 : Int32)), (0, .ref b), (1, .ref a0.1), (2, .ref a1.1), (3, .ref q3), (4, .ref q4), (5, .int x5)]) hx hb dL_law_239 hl (by decide) rfl (fun ls hl => ?_)
    refine lv_aload_n hx hb dL_law_241 rfl (lv_at hl 4 rfl) ?_
    refine k_callV (ci := 11) (C := RX11) (T := TX11) (N := 14) (nA := 0) (As := []) (cs := [w11 cA a1 z.2]) (rs := [w10 cA cR a0 u.2, [(q3, .inl (cL, 1, .inr (.inl (vp_updL f3 (0 : Int32).toNatClampNeg u.1.toInt64))))], [(q4, .inl (cF, 1, .inr (.inr (.inr (.inl f4)))))]]) (cs1 := [w11 cA a1 z.2]) (bs1 := [w10 cA cR a0 u.2, w11 cA a1 z.2, [(q3, .inl (cL, 1, .inr (.inl (vp_updL f3 (0 : Int32).toNatClampNeg u.1.toInt64))))], [(q4, .inl (cF, 1, .inr (.inr (.inr (.inl f4)))))]]) (rest := []) (st1 := [.int z.2.2.2.2.1]) ⟨hx, hb, hml, hown, hts⟩ hz hw hA (mX11_thrown l D cA cR a1 z.2 (z.2.2.2.2.1) rfl) gL_law_X11_thrown rfl rfl rfl (by decide +kernel) rfl ⟨Nat.le_of_ble_eq_true rfl, Nat.le_of_ble_eq_true rfl⟩ rfl rfl hl.1 rfl (Nat.le_of_ble_eq_true rfl) dL_law_242 ⟨(by show _ ≤ 601024; omega), (by show _ ≤ 7293034; omega)⟩ [1] [0, 2, 3] [0, 3, 1, 2] rfl rfl rfl rfl rfl rfl (fun H locs hw => ?_)
    refine lv_iload hx hb dL_law_245 (lv_at hl 1 rfl) ?_
    refine lv_icmp_eq (tgt := 252) hx hb dL_law_247 (by decide) (fun _ => ?_) (fun cc => absurd hth cc)
    refine lv_iload hx hb dL_law_252 (lv_at hl 1 rfl) ?_
    refine lv_if_ne (tgt := 269) hx hb dL_law_254 (by decide) (fun cc => absurd rfl cc) (fun _ => ?_)
    refine lv_aload_n hx hb dL_law_257 rfl (lv_at hl 5 rfl) ?_
    refine lv_iconst (v := 0) hx hb dL_law_258 (by decide) ?_
    refine k_lald hx hb hzl hw 2 rfl (by unfold vp_in; decide) dL_law_259 ?_
    refine lv_iload hx hb dL_law_260 (lv_at hl 0 rfl) ?_
    refine lv_i2l hx hb dL_law_262 rfl ?_
    refine W.lcmp hx hb dL_law_263 ?_
    refine lv_if_eq (tgt := 269) hx hb dL_law_264 (by decide) (fun _ => ?_) (fun cc => absurd (lcmp_same (by rw [← hret]; exact pk_uLs)) cc)
    refine lv_goto (tgt := 1547) hx hb dL_law_269 (by decide) ?_
    refine W.widen (k := k0 + 1) (n := s0 + 6) (by omega) (by omega) ?_
    exact kk u.2 z.2 (vp_updL f3 (0 : Int32).toNatClampNeg u.1.toInt64) f4 _ _ _ hR hw (lv_sub hl [2, 3, 4, 5, 6, 7] rfl)
  · skip
    refine lv_aload_n hx hb dL_law_168 rfl (lv_at hl 1 rfl) ?_
    refine lv_aload_n hx hb dL_law_169 rfl (lv_at hl 0 rfl) ?_
    refine lv_iload hx hb dL_law_170 (lv_at hl 5 rfl) ?_
    refine lv_iconst (v := 1) hx hb dL_law_172 (by decide) ?_
    refine lv_iadd hx hb dL_law_173 ?_
    refine va_sld hx hb hX hbl hbA hw.2.2 h1 dL_law_174 ?_
    refine lv_topi (fun y ey => ?_)
    obtain rfl : p1 = y := (ey.trans e1).symm
    refine lv_aload_n hx hb dL_law_175 rfl (lv_at hl 0 rfl) ?_
    refine lv_iload hx hb dL_law_176 (lv_at hl 5 rfl) ?_
    refine lv_iconst (v := 2) hx hb dL_law_178 (by decide) ?_
    refine lv_iadd hx hb dL_law_179 ?_
    refine va_sld hx hb hX hbl hbA hw.2.2 h2 dL_law_180 ?_
    refine lv_topi (fun y ey => ?_)
    obtain rfl : p2 = y := (ey.trans e2).symm
    refine lv_aload_n hx hb dL_law_181 rfl (lv_at hl 0 rfl) ?_
    refine lv_iload hx hb dL_law_182 (lv_at hl 5 rfl) ?_
    refine lv_iconst (v := 3) hx hb dL_law_184 (by decide) ?_
    refine lv_iadd hx hb dL_law_185 ?_
    refine va_sld hx hb hX hbl hbA hw.2.2 h3 dL_law_186 ?_
    refine lv_topi (fun y ey => ?_)
    obtain rfl : p3 = y := (ey.trans e3).symm
    refine lv_aload_n hx hb dL_law_187 rfl (lv_at hl 0 rfl) ?_
    refine lv_iload hx hb dL_law_188 (lv_at hl 5 rfl) ?_
    refine lv_iconst (v := 4) hx hb dL_law_190 (by decide) ?_
    refine lv_iadd hx hb dL_law_191 ?_
    refine va_sld hx hb hX hbl hbA hw.2.2 h4 dL_law_192 ?_
    refine lv_topi (fun y ey => ?_)
    obtain rfl : p4 = y := (ey.trans e4).symm
    refine lv_aload_n hx hb dL_law_193 rfl (lv_at hl 0 rfl) ?_
    refine lv_iload hx hb dL_law_194 (lv_at hl 5 rfl) ?_
    refine lv_iconst (v := 5) hx hb dL_law_196 (by decide) ?_
    refine lv_iadd hx hb dL_law_197 ?_
    refine va_sld hx hb hX hbl hbA hw.2.2 h5 dL_law_198 ?_
    refine lv_topi (fun y ey => ?_)
    obtain rfl : p5 = y := (ey.trans e5).symm
    refine lv_aload_n hx hb dL_law_199 rfl (lv_at hl 3 rfl) ?_
    refine k_call (cs := [w10 cA cR a0 v, [(q3, .inl (cL, 1, .inr (.inl f3)))]]) (rs := [w11 cA a1 w, [(q4, .inl (cF, 1, .inr (.inr (.inr (.inl f4)))))]]) (cs1 := [w10 cA cR a0 v, [(q3, .inl (cL, 1, .inr (.inl f3)))]]) (bs1 := [w10 cA cR a0 v, w11 cA a1 w, [(q3, .inl (cL, 1, .inr (.inl f3)))], [(q4, .inl (cF, 1, .inr (.inr (.inr (.inl f4)))))]]) (rest := []) (st1 := [.int (1 : Int32)]) hw hA [0, 2] [1, 3] [2, 0, 3, 1] rfl rfl rfl rfl rfl (k_runL (nA := 7) (As := [.ref a0.1, .int p1, .int p2, .int p3, .int p4, .int p5, .ref q3]) (cs := [w10 cA cR a0 v, [(q3, .inl (cL, 1, .inr (.inl f3)))]]) (rs := [w11 cA a1 w, [(q4, .inl (cF, 1, .inr (.inr (.inr (.inl f4)))))]]) (rest := []) ⟨hx, hb, hml, hown, hts⟩ hz hzl hzx hw hA (t0L_addPulsed l hlt D cA cR cL cF  a0 v p1 p2 p3 p4 p5 q3 f3 hu) gL_law_L_addPulsed rfl rfl rfl (by decide +kernel) rfl ⟨Nat.le_of_ble_eq_true rfl, Nat.le_of_ble_eq_true rfl⟩ hl.1 rfl (Nat.le_of_ble_eq_true rfl) dL_law_200 ⟨(by show _ ≤ 601024; omega), (by show _ ≤ 7293034; omega)⟩ [0, 2] [1, 3] rfl rfl rfl) rfl (fun H locs hw => ?_)
    refine lv_istore (lv' := [(6, .int (1 : Int32)), (0, .ref b), (1, .ref a0.1), (2, .ref a1.1), (3, .ref q3), (4, .ref q4), (5, .int x5)]) hx hb dL_law_203 hl (by decide) rfl (fun ls hl => ?_)
    refine lv_aload_n hx hb dL_law_205 rfl (lv_at hl 3 rfl) ?_
    refine lv_aload_n hx hb dL_law_206 rfl (lv_at hl 1 rfl) ?_
    refine lv_iload hx hb dL_law_207 (lv_at hl 6 rfl) ?_
    refine lv_iconst (v := 1) hx hb dL_law_209 (by decide) ?_
    refine lv_iadd hx hb dL_law_210 ?_
    refine va_sld hx hb hX hbl hbA hw.2.2 h1 dL_law_211 ?_
    refine lv_topi (fun y ey => ?_)
    obtain rfl : p1 = y := (ey.trans e1).symm
    refine lv_aload_n hx hb dL_law_212 rfl (lv_at hl 1 rfl) ?_
    refine lv_iload hx hb dL_law_213 (lv_at hl 6 rfl) ?_
    refine lv_iconst (v := 2) hx hb dL_law_215 (by decide) ?_
    refine lv_iadd hx hb dL_law_216 ?_
    refine va_sld hx hb hX hbl hbA hw.2.2 h2 dL_law_217 ?_
    refine lv_topi (fun y ey => ?_)
    obtain rfl : p2 = y := (ey.trans e2).symm
    refine lv_aload_n hx hb dL_law_218 rfl (lv_at hl 1 rfl) ?_
    refine lv_iload hx hb dL_law_219 (lv_at hl 6 rfl) ?_
    refine lv_iconst (v := 3) hx hb dL_law_221 (by decide) ?_
    refine lv_iadd hx hb dL_law_222 ?_
    refine va_sld hx hb hX hbl hbA hw.2.2 h3 dL_law_223 ?_
    refine lv_topi (fun y ey => ?_)
    obtain rfl : p3 = y := (ey.trans e3).symm
    refine lv_aload_n hx hb dL_law_224 rfl (lv_at hl 1 rfl) ?_
    refine lv_iload hx hb dL_law_225 (lv_at hl 6 rfl) ?_
    refine lv_iconst (v := 4) hx hb dL_law_227 (by decide) ?_
    refine lv_iadd hx hb dL_law_228 ?_
    refine va_sld hx hb hX hbl hbA hw.2.2 h4 dL_law_229 ?_
    refine lv_topi (fun y ey => ?_)
    obtain rfl : p4 = y := (ey.trans e4).symm
    refine lv_aload_n hx hb dL_law_230 rfl (lv_at hl 1 rfl) ?_
    refine lv_iload hx hb dL_law_231 (lv_at hl 6 rfl) ?_
    refine lv_iconst (v := 5) hx hb dL_law_233 (by decide) ?_
    refine lv_iadd hx hb dL_law_234 ?_
    refine va_sld hx hb hX hbl hbA hw.2.2 h5 dL_law_235 ?_
    refine lv_topi (fun y ey => ?_)
    obtain rfl : p5 = y := (ey.trans e5).symm
    refine k_callV (ci := 11) (C := RX11) (T := TX11) (N := 14) (nA := 5) (As := [.int p1, .int p2, .int p3, .int p4, .int p5]) (cs := [w11 cA a1 w]) (rs := [w10 cA cR a0 v, [(q3, .inl (cL, 1, .inr (.inl f3)))], [(q4, .inl (cF, 1, .inr (.inr (.inr (.inl f4)))))]]) (cs1 := [w11 cA a1 z.2]) (bs1 := [w10 cA cR a0 v, w11 cA a1 z.2, [(q3, .inl (cL, 1, .inr (.inl f3)))], [(q4, .inl (cF, 1, .inr (.inr (.inr (.inl f4)))))]]) (rest := []) (st1 := [.int z.1]) ⟨hx, hb, hml, hown, hts⟩ hz hw hA (mX11_addPulsed l D cA cR N a1 w p1 p2 p3 p4 p5 z hz1) gL_law_X11_addPulsed rfl rfl rfl (by decide +kernel) rfl ⟨Nat.le_of_ble_eq_true rfl, Nat.le_of_ble_eq_true rfl⟩ rfl rfl hl.1 rfl (Nat.le_of_ble_eq_true rfl) dL_law_236 ⟨(by show _ ≤ 601024; omega), (by show _ ≤ 7293034; omega)⟩ [1] [0, 2, 3] [0, 3, 1, 2] rfl rfl rfl rfl rfl rfl (fun H locs hw => ?_)
    refine lv_istore (lv' := [(7, .int z.1), (6, .int (1 : Int32)), (0, .ref b), (1, .ref a0.1), (2, .ref a1.1), (3, .ref q3), (4, .ref q4), (5, .int x5)]) hx hb dL_law_239 hl (by decide) rfl (fun ls hl => ?_)
    refine lv_aload_n hx hb dL_law_241 rfl (lv_at hl 4 rfl) ?_
    refine k_callV (ci := 11) (C := RX11) (T := TX11) (N := 14) (nA := 0) (As := []) (cs := [w11 cA a1 z.2]) (rs := [w10 cA cR a0 v, [(q3, .inl (cL, 1, .inr (.inl f3)))], [(q4, .inl (cF, 1, .inr (.inr (.inr (.inl f4)))))]]) (cs1 := [w11 cA a1 z.2]) (bs1 := [w10 cA cR a0 v, w11 cA a1 z.2, [(q3, .inl (cL, 1, .inr (.inl f3)))], [(q4, .inl (cF, 1, .inr (.inr (.inr (.inl f4)))))]]) (rest := []) (st1 := [.int z.2.2.2.2.1]) ⟨hx, hb, hml, hown, hts⟩ hz hw hA (mX11_thrown l D cA cR a1 z.2 (z.2.2.2.2.1) rfl) gL_law_X11_thrown rfl rfl rfl (by decide +kernel) rfl ⟨Nat.le_of_ble_eq_true rfl, Nat.le_of_ble_eq_true rfl⟩ rfl rfl hl.1 rfl (Nat.le_of_ble_eq_true rfl) dL_law_242 ⟨(by show _ ≤ 601024; omega), (by show _ ≤ 7293034; omega)⟩ [1] [0, 2, 3] [0, 3, 1, 2] rfl rfl rfl rfl rfl rfl (fun H locs hw => ?_)
    refine lv_iload hx hb dL_law_245 (lv_at hl 1 rfl) ?_
    refine lv_icmp_eq (tgt := 252) hx hb dL_law_247 (by decide) (fun _ => ?_) (fun cc => absurd hth cc)
    refine lv_iload hx hb dL_law_252 (lv_at hl 1 rfl) ?_
    refine lv_if_ne (tgt := 269) hx hb dL_law_254 (by decide) (fun _ => ?_) (fun cc => absurd cc (by decide))
    refine lv_goto (tgt := 1547) hx hb dL_law_269 (by decide) ?_
    refine W.widen (k := k0 + 1) (n := s0 + 6) (by omega) (by omega) ?_
    exact kk v z.2 f3 f4 _ _ _ hR hw (lv_sub hl [2, 3, 4, 5, 6, 7] rfl)
  · skip
    refine lv_aload_n hx hb dL_law_168 rfl (lv_at hl 1 rfl) ?_
    refine lv_aload_n hx hb dL_law_169 rfl (lv_at hl 0 rfl) ?_
    refine lv_iload hx hb dL_law_170 (lv_at hl 5 rfl) ?_
    refine lv_iconst (v := 1) hx hb dL_law_172 (by decide) ?_
    refine lv_iadd hx hb dL_law_173 ?_
    refine va_sld hx hb hX hbl hbA hw.2.2 h1 dL_law_174 ?_
    refine lv_topi (fun y ey => ?_)
    obtain rfl : p1 = y := (ey.trans e1).symm
    refine lv_aload_n hx hb dL_law_175 rfl (lv_at hl 0 rfl) ?_
    refine lv_iload hx hb dL_law_176 (lv_at hl 5 rfl) ?_
    refine lv_iconst (v := 2) hx hb dL_law_178 (by decide) ?_
    refine lv_iadd hx hb dL_law_179 ?_
    refine va_sld hx hb hX hbl hbA hw.2.2 h2 dL_law_180 ?_
    refine lv_topi (fun y ey => ?_)
    obtain rfl : p2 = y := (ey.trans e2).symm
    refine lv_aload_n hx hb dL_law_181 rfl (lv_at hl 0 rfl) ?_
    refine lv_iload hx hb dL_law_182 (lv_at hl 5 rfl) ?_
    refine lv_iconst (v := 3) hx hb dL_law_184 (by decide) ?_
    refine lv_iadd hx hb dL_law_185 ?_
    refine va_sld hx hb hX hbl hbA hw.2.2 h3 dL_law_186 ?_
    refine lv_topi (fun y ey => ?_)
    obtain rfl : p3 = y := (ey.trans e3).symm
    refine lv_aload_n hx hb dL_law_187 rfl (lv_at hl 0 rfl) ?_
    refine lv_iload hx hb dL_law_188 (lv_at hl 5 rfl) ?_
    refine lv_iconst (v := 4) hx hb dL_law_190 (by decide) ?_
    refine lv_iadd hx hb dL_law_191 ?_
    refine va_sld hx hb hX hbl hbA hw.2.2 h4 dL_law_192 ?_
    refine lv_topi (fun y ey => ?_)
    obtain rfl : p4 = y := (ey.trans e4).symm
    refine lv_aload_n hx hb dL_law_193 rfl (lv_at hl 0 rfl) ?_
    refine lv_iload hx hb dL_law_194 (lv_at hl 5 rfl) ?_
    refine lv_iconst (v := 5) hx hb dL_law_196 (by decide) ?_
    refine lv_iadd hx hb dL_law_197 ?_
    refine va_sld hx hb hX hbl hbA hw.2.2 h5 dL_law_198 ?_
    refine lv_topi (fun y ey => ?_)
    obtain rfl : p5 = y := (ey.trans e5).symm
    refine lv_aload_n hx hb dL_law_199 rfl (lv_at hl 3 rfl) ?_
    refine k_call (cs := [w10 cA cR a0 v, [(q3, .inl (cL, 1, .inr (.inl f3)))]]) (rs := [w11 cA a1 w, [(q4, .inl (cF, 1, .inr (.inr (.inr (.inl f4)))))]]) (cs1 := [w10 cA cR a0 v, [(q3, .inl (cL, 1, .inr (.inl f3)))]]) (bs1 := [w10 cA cR a0 v, w11 cA a1 w, [(q3, .inl (cL, 1, .inr (.inl f3)))], [(q4, .inl (cF, 1, .inr (.inr (.inr (.inl f4)))))]]) (rest := []) (st1 := [.int (2 : Int32)]) hw hA [0, 2] [1, 3] [2, 0, 3, 1] rfl rfl rfl rfl rfl (k_runL (nA := 7) (As := [.ref a0.1, .int p1, .int p2, .int p3, .int p4, .int p5, .ref q3]) (cs := [w10 cA cR a0 v, [(q3, .inl (cL, 1, .inr (.inl f3)))]]) (rs := [w11 cA a1 w, [(q4, .inl (cF, 1, .inr (.inr (.inr (.inl f4)))))]]) (rest := []) ⟨hx, hb, hml, hown, hts⟩ hz hzl hzx hw hA (t1L_addPulsed l hlt D cA cR cL cF  a0 v p1 p2 p3 p4 p5 q3 f3 hu) gL_law_L_addPulsed rfl rfl rfl (by decide +kernel) rfl ⟨Nat.le_of_ble_eq_true rfl, Nat.le_of_ble_eq_true rfl⟩ hl.1 rfl (Nat.le_of_ble_eq_true rfl) dL_law_200 ⟨(by show _ ≤ 601024; omega), (by show _ ≤ 7293034; omega)⟩ [0, 2] [1, 3] rfl rfl rfl) rfl (fun H locs hw => ?_)
    refine lv_istore (lv' := [(6, .int (2 : Int32)), (0, .ref b), (1, .ref a0.1), (2, .ref a1.1), (3, .ref q3), (4, .ref q4), (5, .int x5)]) hx hb dL_law_203 hl (by decide) rfl (fun ls hl => ?_)
    refine lv_aload_n hx hb dL_law_205 rfl (lv_at hl 3 rfl) ?_
    refine lv_aload_n hx hb dL_law_206 rfl (lv_at hl 1 rfl) ?_
    refine lv_iload hx hb dL_law_207 (lv_at hl 6 rfl) ?_
    refine lv_iconst (v := 1) hx hb dL_law_209 (by decide) ?_
    refine lv_iadd hx hb dL_law_210 ?_
    refine va_sld hx hb hX hbl hbA hw.2.2 h1 dL_law_211 ?_
    refine lv_topi (fun y ey => ?_)
    obtain rfl : p1 = y := (ey.trans e1).symm
    refine lv_aload_n hx hb dL_law_212 rfl (lv_at hl 1 rfl) ?_
    refine lv_iload hx hb dL_law_213 (lv_at hl 6 rfl) ?_
    refine lv_iconst (v := 2) hx hb dL_law_215 (by decide) ?_
    refine lv_iadd hx hb dL_law_216 ?_
    refine va_sld hx hb hX hbl hbA hw.2.2 h2 dL_law_217 ?_
    refine lv_topi (fun y ey => ?_)
    obtain rfl : p2 = y := (ey.trans e2).symm
    refine lv_aload_n hx hb dL_law_218 rfl (lv_at hl 1 rfl) ?_
    refine lv_iload hx hb dL_law_219 (lv_at hl 6 rfl) ?_
    refine lv_iconst (v := 3) hx hb dL_law_221 (by decide) ?_
    refine lv_iadd hx hb dL_law_222 ?_
    refine va_sld hx hb hX hbl hbA hw.2.2 h3 dL_law_223 ?_
    refine lv_topi (fun y ey => ?_)
    obtain rfl : p3 = y := (ey.trans e3).symm
    refine lv_aload_n hx hb dL_law_224 rfl (lv_at hl 1 rfl) ?_
    refine lv_iload hx hb dL_law_225 (lv_at hl 6 rfl) ?_
    refine lv_iconst (v := 4) hx hb dL_law_227 (by decide) ?_
    refine lv_iadd hx hb dL_law_228 ?_
    refine va_sld hx hb hX hbl hbA hw.2.2 h4 dL_law_229 ?_
    refine lv_topi (fun y ey => ?_)
    obtain rfl : p4 = y := (ey.trans e4).symm
    refine lv_aload_n hx hb dL_law_230 rfl (lv_at hl 1 rfl) ?_
    refine lv_iload hx hb dL_law_231 (lv_at hl 6 rfl) ?_
    refine lv_iconst (v := 5) hx hb dL_law_233 (by decide) ?_
    refine lv_iadd hx hb dL_law_234 ?_
    refine va_sld hx hb hX hbl hbA hw.2.2 h5 dL_law_235 ?_
    refine lv_topi (fun y ey => ?_)
    obtain rfl : p5 = y := (ey.trans e5).symm
    refine k_callV (ci := 11) (C := RX11) (T := TX11) (N := 14) (nA := 5) (As := [.int p1, .int p2, .int p3, .int p4, .int p5]) (cs := [w11 cA a1 w]) (rs := [w10 cA cR a0 v, [(q3, .inl (cL, 1, .inr (.inl f3)))], [(q4, .inl (cF, 1, .inr (.inr (.inr (.inl f4)))))]]) (cs1 := [w11 cA a1 z.2]) (bs1 := [w10 cA cR a0 v, w11 cA a1 z.2, [(q3, .inl (cL, 1, .inr (.inl f3)))], [(q4, .inl (cF, 1, .inr (.inr (.inr (.inl f4)))))]]) (rest := []) (st1 := [.int z.1]) ⟨hx, hb, hml, hown, hts⟩ hz hw hA (mX11_addPulsed l D cA cR N a1 w p1 p2 p3 p4 p5 z hz1) gL_law_X11_addPulsed rfl rfl rfl (by decide +kernel) rfl ⟨Nat.le_of_ble_eq_true rfl, Nat.le_of_ble_eq_true rfl⟩ rfl rfl hl.1 rfl (Nat.le_of_ble_eq_true rfl) dL_law_236 ⟨(by show _ ≤ 601024; omega), (by show _ ≤ 7293034; omega)⟩ [1] [0, 2, 3] [0, 3, 1, 2] rfl rfl rfl rfl rfl rfl (fun H locs hw => ?_)
    refine lv_istore (lv' := [(7, .int z.1), (6, .int (2 : Int32)), (0, .ref b), (1, .ref a0.1), (2, .ref a1.1), (3, .ref q3), (4, .ref q4), (5, .int x5)]) hx hb dL_law_239 hl (by decide) rfl (fun ls hl => ?_)
    refine lv_aload_n hx hb dL_law_241 rfl (lv_at hl 4 rfl) ?_
    refine k_callV (ci := 11) (C := RX11) (T := TX11) (N := 14) (nA := 0) (As := []) (cs := [w11 cA a1 z.2]) (rs := [w10 cA cR a0 v, [(q3, .inl (cL, 1, .inr (.inl f3)))], [(q4, .inl (cF, 1, .inr (.inr (.inr (.inl f4)))))]]) (cs1 := [w11 cA a1 z.2]) (bs1 := [w10 cA cR a0 v, w11 cA a1 z.2, [(q3, .inl (cL, 1, .inr (.inl f3)))], [(q4, .inl (cF, 1, .inr (.inr (.inr (.inl f4)))))]]) (rest := []) (st1 := [.int z.2.2.2.2.1]) ⟨hx, hb, hml, hown, hts⟩ hz hw hA (mX11_thrown l D cA cR a1 z.2 (z.2.2.2.2.1) rfl) gL_law_X11_thrown rfl rfl rfl (by decide +kernel) rfl ⟨Nat.le_of_ble_eq_true rfl, Nat.le_of_ble_eq_true rfl⟩ rfl rfl hl.1 rfl (Nat.le_of_ble_eq_true rfl) dL_law_242 ⟨(by show _ ≤ 601024; omega), (by show _ ≤ 7293034; omega)⟩ [1] [0, 2, 3] [0, 3, 1, 2] rfl rfl rfl rfl rfl rfl (fun H locs hw => ?_)
    refine lv_iload hx hb dL_law_245 (lv_at hl 1 rfl) ?_
    refine lv_icmp_eq (tgt := 252) hx hb dL_law_247 (by decide) (fun _ => ?_) (fun cc => absurd hth cc)
    refine lv_iload hx hb dL_law_252 (lv_at hl 1 rfl) ?_
    refine lv_if_ne (tgt := 269) hx hb dL_law_254 (by decide) (fun _ => ?_) (fun cc => absurd cc (by decide))
    refine lv_goto (tgt := 1547) hx hb dL_law_269 (by decide) ?_
    refine W.widen (k := k0 + 1) (n := s0 + 6) (by omega) (by omega) ?_
    exact kk v z.2 f3 f4 _ _ _ hR hw (lv_sub hl [2, 3, 4, 5, 6, 7] rfl)
set_option maxHeartbeats 4000000 in
set_option maxRecDepth 100000 in
theorem lk_1 {p : Program} {l : Launch} {e : Env} {s : State} {m : MethodId} {below : List Frame} {meth : Method} {c : Code} {D : va_G} {cA cR cL cF : ClassId} {b L : Nat} {xs : Nat → Int32} {RR : Nat → V10 → V11 → Prop} {N : Nat} (hpu : PU_addHopping RR N) (X : LX p l s m c b L xs D cA cR cL cF) {k0 s0 : Nat} (hk0 : k0 + 1 ≤ 601024) (hs0 : s0 + 6 ≤ 7293034) {cn : Nat} (hcn : cn < 512) {x5 : Int32} {p1 : Int32} (h1 : vp_in (x5 + 1) L) (e1 : xs (x5 + 1).toNatClampNeg = p1) {p2 : Int32} (h2 : vp_in (x5 + 2) L) (e2 : xs (x5 + 2).toNatClampNeg = p2) {p3 : Int32} (h3 : vp_in (x5 + 3) L) (e3 : xs (x5 + 3).toNatClampNeg = p3) {p4 : Int32} (h4 : vp_in (x5 + 4) L) (e4 : xs (x5 + 4).toNatClampNeg = p4) {p5 : Int32} (h5 : vp_in (x5 + 5) L) (e5 : xs (x5 + 5).toNatClampNeg = p5) {v : V10} {w : V11} {a0 : A10} {a1 : A11} {q3 q4 : Nat} {f3 : Nat → Int64} {f4 : Nat → UInt64} {H : Heap} {locs : List Loc} {ls : Array Slot} {Q : State → Prop} (hR : RR cn v w) (hw : ww (fun q : Nat => s.heap.size ≤ q) s.heap D [w10 cA cR a0 v, w11 cA a1 w, [(q3, .inl (cL, 1, .inr (.inl f3)))], [(q4, .inl (cF, 1, .inr (.inr (.inr (.inl f4)))))]] H locs) (hl : lv_has ls 9 [(0, .ref b), (1, .ref a0.1), (2, .ref a1.1), (3, .ref q3), (4, .ref q4), (5, .int x5)])
    (kk : ∀ (v : V10) (w : V11) (f3 : Nat → Int64) (f4 : Nat → UInt64) (H : Heap) (locs : List Loc) (ls : Array Slot), RR (cn + 1) v w → ww (fun q : Nat => s.heap.size ≤ q) s.heap D [w10 cA cR a0 v, w11 cA a1 w, [(q3, .inl (cL, 1, .inr (.inl f3)))], [(q4, .inl (cF, 1, .inr (.inr (.inr (.inl f4)))))]] H locs → lv_has ls 9 [(0, .ref b), (1, .ref a0.1), (2, .ref a1.1), (3, .ref q3), (4, .ref q4), (5, .int x5)] → W p l e room_1 s m #[Value.ref b] below meth c H locs (k0 + 1) (s0 + 6) Q (F0 m 1547 ls [])) : W p l e room_1 s m #[Value.ref b] below meth c H locs k0 s0 Q (F0 m 272 ls []) := by
  obtain ⟨hx, hb, hml, hown, hts, hX, hbl, hz, hzl, hzx, hlt⟩ := X
  have hA : ∀ q : Nat, s.heap.size ≤ q → (fun q : Nat => s.heap.size ≤ q) q := fun _ h => h
  have hbA : ¬ (fun q : Nat => s.heap.size ≤ q) b := Nat.not_le.mpr hbl
  rcases hpu cn v w p1 p2 p3 p4 p5 hcn hR with ⟨u, z, hu, hz1, hth, hret, hR⟩ | ⟨z, hu, hz1, hth, hR⟩ | ⟨z, hu, hz1, hth, hR⟩
  · skip
    refine lv_aload_n hx hb dL_law_272 rfl (lv_at hl 1 rfl) ?_
    refine lv_aload_n hx hb dL_law_273 rfl (lv_at hl 0 rfl) ?_
    refine lv_iload hx hb dL_law_274 (lv_at hl 5 rfl) ?_
    refine lv_iconst (v := 1) hx hb dL_law_276 (by decide) ?_
    refine lv_iadd hx hb dL_law_277 ?_
    refine va_sld hx hb hX hbl hbA hw.2.2 h1 dL_law_278 ?_
    refine lv_topi (fun y ey => ?_)
    obtain rfl : p1 = y := (ey.trans e1).symm
    refine lv_aload_n hx hb dL_law_279 rfl (lv_at hl 0 rfl) ?_
    refine lv_iload hx hb dL_law_280 (lv_at hl 5 rfl) ?_
    refine lv_iconst (v := 2) hx hb dL_law_282 (by decide) ?_
    refine lv_iadd hx hb dL_law_283 ?_
    refine va_sld hx hb hX hbl hbA hw.2.2 h2 dL_law_284 ?_
    refine lv_topi (fun y ey => ?_)
    obtain rfl : p2 = y := (ey.trans e2).symm
    refine lv_aload_n hx hb dL_law_285 rfl (lv_at hl 0 rfl) ?_
    refine lv_iload hx hb dL_law_286 (lv_at hl 5 rfl) ?_
    refine lv_iconst (v := 3) hx hb dL_law_288 (by decide) ?_
    refine lv_iadd hx hb dL_law_289 ?_
    refine va_sld hx hb hX hbl hbA hw.2.2 h3 dL_law_290 ?_
    refine lv_topi (fun y ey => ?_)
    obtain rfl : p3 = y := (ey.trans e3).symm
    refine lv_aload_n hx hb dL_law_291 rfl (lv_at hl 0 rfl) ?_
    refine lv_iload hx hb dL_law_292 (lv_at hl 5 rfl) ?_
    refine lv_iconst (v := 4) hx hb dL_law_294 (by decide) ?_
    refine lv_iadd hx hb dL_law_295 ?_
    refine va_sld hx hb hX hbl hbA hw.2.2 h4 dL_law_296 ?_
    refine lv_topi (fun y ey => ?_)
    obtain rfl : p4 = y := (ey.trans e4).symm
    refine lv_aload_n hx hb dL_law_297 rfl (lv_at hl 0 rfl) ?_
    refine lv_iload hx hb dL_law_298 (lv_at hl 5 rfl) ?_
    refine lv_iconst (v := 5) hx hb dL_law_300 (by decide) ?_
    refine lv_iadd hx hb dL_law_301 ?_
    refine va_sld hx hb hX hbl hbA hw.2.2 h5 dL_law_302 ?_
    refine lv_topi (fun y ey => ?_)
    obtain rfl : p5 = y := (ey.trans e5).symm
    refine lv_aload_n hx hb dL_law_303 rfl (lv_at hl 3 rfl) ?_
    refine k_call (cs := [w10 cA cR a0 v, [(q3, .inl (cL, 1, .inr (.inl f3)))]]) (rs := [w11 cA a1 w, [(q4, .inl (cF, 1, .inr (.inr (.inr (.inl f4)))))]]) (cs1 := [w10 cA cR a0 u.2, [(q3, .inl (cL, 1, .inr (.inl (vp_updL f3 (0 : Int32).toNatClampNeg u.1.toInt64))))]]) (bs1 := [w10 cA cR a0 u.2, w11 cA a1 w, [(q3, .inl (cL, 1, .inr (.inl (vp_updL f3 (0 : Int32).toNatClampNeg u.1.toInt64))))], [(q4, .inl (cF, 1, .inr (.inr (.inr (.inl f4)))))]]) (rest := []) (st1 := [.int (0 : Int32)]) hw hA [0, 2] [1, 3] [2, 0, 3, 1] rfl rfl rfl rfl rfl (k_runL (nA := 7) (As := [.ref a0.1, .int p1, .int p2, .int p3, .int p4, .int p5, .ref q3]) (cs := [w10 cA cR a0 v, [(q3, .inl (cL, 1, .inr (.inl f3)))]]) (rs := [w11 cA a1 w, [(q4, .inl (cF, 1, .inr (.inr (.inr (.inl f4)))))]]) (rest := []) ⟨hx, hb, hml, hown, hts⟩ hz hzl hzx hw hA (mL_addHopping l D cA cR cL cF  a0 v p1 p2 p3 p4 p5 q3 f3 u hu) gL_law_L_addHopping rfl rfl rfl (by decide +kernel) rfl ⟨Nat.le_of_ble_eq_true rfl, Nat.le_of_ble_eq_true rfl⟩ hl.1 rfl (Nat.le_of_ble_eq_true rfl) dL_law_304 ⟨(by show _ ≤ 601024; omega), (by show _ ≤ 7293034; omega)⟩ [0, 2] [1, 3] rfl rfl rfl) rfl (fun H locs hw => ?_)
    refine lv_istore (lv' := [(6, .int (0 : Int32)), (0, .ref b), (1, .ref a0.1), (2, .ref a1.1), (3, .ref q3), (4, .ref q4), (5, .int x5)]) hx hb dL_law_307 hl (by decide) rfl (fun ls hl => ?_)
    refine lv_aload_n hx hb dL_law_309 rfl (lv_at hl 3 rfl) ?_
    refine lv_aload_n hx hb dL_law_310 rfl (lv_at hl 1 rfl) ?_
    refine lv_iload hx hb dL_law_311 (lv_at hl 6 rfl) ?_
    refine lv_iconst (v := 1) hx hb dL_law_313 (by decide) ?_
    refine lv_iadd hx hb dL_law_314 ?_
    refine va_sld hx hb hX hbl hbA hw.2.2 h1 dL_law_315 ?_
    refine lv_topi (fun y ey => ?_)
    obtain rfl : p1 = y := (ey.trans e1).symm
    refine lv_aload_n hx hb dL_law_316 rfl (lv_at hl 1 rfl) ?_
    refine lv_iload hx hb dL_law_317 (lv_at hl 6 rfl) ?_
    refine lv_iconst (v := 2) hx hb dL_law_319 (by decide) ?_
    refine lv_iadd hx hb dL_law_320 ?_
    refine va_sld hx hb hX hbl hbA hw.2.2 h2 dL_law_321 ?_
    refine lv_topi (fun y ey => ?_)
    obtain rfl : p2 = y := (ey.trans e2).symm
    refine lv_aload_n hx hb dL_law_322 rfl (lv_at hl 1 rfl) ?_
    refine lv_iload hx hb dL_law_323 (lv_at hl 6 rfl) ?_
    refine lv_iconst (v := 3) hx hb dL_law_325 (by decide) ?_
    refine lv_iadd hx hb dL_law_326 ?_
    refine va_sld hx hb hX hbl hbA hw.2.2 h3 dL_law_327 ?_
    refine lv_topi (fun y ey => ?_)
    obtain rfl : p3 = y := (ey.trans e3).symm
    refine lv_aload_n hx hb dL_law_328 rfl (lv_at hl 1 rfl) ?_
    refine lv_iload hx hb dL_law_329 (lv_at hl 6 rfl) ?_
    refine lv_iconst (v := 4) hx hb dL_law_331 (by decide) ?_
    refine lv_iadd hx hb dL_law_332 ?_
    refine va_sld hx hb hX hbl hbA hw.2.2 h4 dL_law_333 ?_
    refine lv_topi (fun y ey => ?_)
    obtain rfl : p4 = y := (ey.trans e4).symm
    refine lv_aload_n hx hb dL_law_334 rfl (lv_at hl 1 rfl) ?_
    refine lv_iload hx hb dL_law_335 (lv_at hl 6 rfl) ?_
    refine lv_iconst (v := 5) hx hb dL_law_337 (by decide) ?_
    refine lv_iadd hx hb dL_law_338 ?_
    refine va_sld hx hb hX hbl hbA hw.2.2 h5 dL_law_339 ?_
    refine lv_topi (fun y ey => ?_)
    obtain rfl : p5 = y := (ey.trans e5).symm
    refine k_callV (ci := 11) (C := RX11) (T := TX11) (N := 14) (nA := 5) (As := [.int p1, .int p2, .int p3, .int p4, .int p5]) (cs := [w11 cA a1 w]) (rs := [w10 cA cR a0 u.2, [(q3, .inl (cL, 1, .inr (.inl (vp_updL f3 (0 : Int32).toNatClampNeg u.1.toInt64))))], [(q4, .inl (cF, 1, .inr (.inr (.inr (.inl f4)))))]]) (cs1 := [w11 cA a1 z.2]) (bs1 := [w10 cA cR a0 u.2, w11 cA a1 z.2, [(q3, .inl (cL, 1, .inr (.inl (vp_updL f3 (0 : Int32).toNatClampNeg u.1.toInt64))))], [(q4, .inl (cF, 1, .inr (.inr (.inr (.inl f4)))))]]) (rest := []) (st1 := [.int z.1]) ⟨hx, hb, hml, hown, hts⟩ hz hw hA (mX11_addHopping l D cA cR N a1 w p1 p2 p3 p4 p5 z hz1) gL_law_X11_addHopping rfl rfl rfl (by decide +kernel) rfl ⟨Nat.le_of_ble_eq_true rfl, Nat.le_of_ble_eq_true rfl⟩ rfl rfl hl.1 rfl (Nat.le_of_ble_eq_true rfl) dL_law_340 ⟨(by show _ ≤ 601024; omega), (by show _ ≤ 7293034; omega)⟩ [1] [0, 2, 3] [0, 3, 1, 2] rfl rfl rfl rfl rfl rfl (fun H locs hw => ?_)
    refine lv_istore (lv' := [(7, .int z.1), (6, .int (0 : Int32)), (0, .ref b), (1, .ref a0.1), (2, .ref a1.1), (3, .ref q3), (4, .ref q4), (5, .int x5)]) hx hb dL_law_343 hl (by decide) rfl (fun ls hl => ?_)
    refine lv_aload_n hx hb dL_law_345 rfl (lv_at hl 4 rfl) ?_
    refine k_callV (ci := 11) (C := RX11) (T := TX11) (N := 14) (nA := 0) (As := []) (cs := [w11 cA a1 z.2]) (rs := [w10 cA cR a0 u.2, [(q3, .inl (cL, 1, .inr (.inl (vp_updL f3 (0 : Int32).toNatClampNeg u.1.toInt64))))], [(q4, .inl (cF, 1, .inr (.inr (.inr (.inl f4)))))]]) (cs1 := [w11 cA a1 z.2]) (bs1 := [w10 cA cR a0 u.2, w11 cA a1 z.2, [(q3, .inl (cL, 1, .inr (.inl (vp_updL f3 (0 : Int32).toNatClampNeg u.1.toInt64))))], [(q4, .inl (cF, 1, .inr (.inr (.inr (.inl f4)))))]]) (rest := []) (st1 := [.int z.2.2.2.2.1]) ⟨hx, hb, hml, hown, hts⟩ hz hw hA (mX11_thrown l D cA cR a1 z.2 (z.2.2.2.2.1) rfl) gL_law_X11_thrown rfl rfl rfl (by decide +kernel) rfl ⟨Nat.le_of_ble_eq_true rfl, Nat.le_of_ble_eq_true rfl⟩ rfl rfl hl.1 rfl (Nat.le_of_ble_eq_true rfl) dL_law_346 ⟨(by show _ ≤ 601024; omega), (by show _ ≤ 7293034; omega)⟩ [1] [0, 2, 3] [0, 3, 1, 2] rfl rfl rfl rfl rfl rfl (fun H locs hw => ?_)
    refine lv_iload hx hb dL_law_349 (lv_at hl 1 rfl) ?_
    refine lv_icmp_eq (tgt := 356) hx hb dL_law_351 (by decide) (fun _ => ?_) (fun cc => absurd hth cc)
    refine lv_iload hx hb dL_law_356 (lv_at hl 1 rfl) ?_
    refine lv_if_ne (tgt := 373) hx hb dL_law_358 (by decide) (fun cc => absurd rfl cc) (fun _ => ?_)
    refine lv_aload_n hx hb dL_law_361 rfl (lv_at hl 5 rfl) ?_
    refine lv_iconst (v := 0) hx hb dL_law_362 (by decide) ?_
    refine k_lald hx hb hzl hw 2 rfl (by unfold vp_in; decide) dL_law_363 ?_
    refine lv_iload hx hb dL_law_364 (lv_at hl 0 rfl) ?_
    refine lv_i2l hx hb dL_law_366 rfl ?_
    refine W.lcmp hx hb dL_law_367 ?_
    refine lv_if_eq (tgt := 373) hx hb dL_law_368 (by decide) (fun _ => ?_) (fun cc => absurd (lcmp_same (by rw [← hret]; exact pk_uLs)) cc)
    refine lv_goto (tgt := 1547) hx hb dL_law_373 (by decide) ?_
    refine W.widen (k := k0 + 1) (n := s0 + 6) (by omega) (by omega) ?_
    exact kk u.2 z.2 (vp_updL f3 (0 : Int32).toNatClampNeg u.1.toInt64) f4 _ _ _ hR hw (lv_sub hl [2, 3, 4, 5, 6, 7] rfl)
  · skip
    refine lv_aload_n hx hb dL_law_272 rfl (lv_at hl 1 rfl) ?_
    refine lv_aload_n hx hb dL_law_273 rfl (lv_at hl 0 rfl) ?_
    refine lv_iload hx hb dL_law_274 (lv_at hl 5 rfl) ?_
    refine lv_iconst (v := 1) hx hb dL_law_276 (by decide) ?_
    refine lv_iadd hx hb dL_law_277 ?_
    refine va_sld hx hb hX hbl hbA hw.2.2 h1 dL_law_278 ?_
    refine lv_topi (fun y ey => ?_)
    obtain rfl : p1 = y := (ey.trans e1).symm
    refine lv_aload_n hx hb dL_law_279 rfl (lv_at hl 0 rfl) ?_
    refine lv_iload hx hb dL_law_280 (lv_at hl 5 rfl) ?_
    refine lv_iconst (v := 2) hx hb dL_law_282 (by decide) ?_
    refine lv_iadd hx hb dL_law_283 ?_
    refine va_sld hx hb hX hbl hbA hw.2.2 h2 dL_law_284 ?_
    refine lv_topi (fun y ey => ?_)
    obtain rfl : p2 = y := (ey.trans e2).symm
    refine lv_aload_n hx hb dL_law_285 rfl (lv_at hl 0 rfl) ?_
    refine lv_iload hx hb dL_law_286 (lv_at hl 5 rfl) ?_
    refine lv_iconst (v := 3) hx hb dL_law_288 (by decide) ?_
    refine lv_iadd hx hb dL_law_289 ?_
    refine va_sld hx hb hX hbl hbA hw.2.2 h3 dL_law_290 ?_
    refine lv_topi (fun y ey => ?_)
    obtain rfl : p3 = y := (ey.trans e3).symm
    refine lv_aload_n hx hb dL_law_291 rfl (lv_at hl 0 rfl) ?_
    refine lv_iload hx hb dL_law_292 (lv_at hl 5 rfl) ?_
    refine lv_iconst (v := 4) hx hb dL_law_294 (by decide) ?_
    refine lv_iadd hx hb dL_law_295 ?_
    refine va_sld hx hb hX hbl hbA hw.2.2 h4 dL_law_296 ?_
    refine lv_topi (fun y ey => ?_)
    obtain rfl : p4 = y := (ey.trans e4).symm
    refine lv_aload_n hx hb dL_law_297 rfl (lv_at hl 0 rfl) ?_
    refine lv_iload hx hb dL_law_298 (lv_at hl 5 rfl) ?_
    refine lv_iconst (v := 5) hx hb dL_law_300 (by decide) ?_
    refine lv_iadd hx hb dL_law_301 ?_
    refine va_sld hx hb hX hbl hbA hw.2.2 h5 dL_law_302 ?_
    refine lv_topi (fun y ey => ?_)
    obtain rfl : p5 = y := (ey.trans e5).symm
    refine lv_aload_n hx hb dL_law_303 rfl (lv_at hl 3 rfl) ?_
    refine k_call (cs := [w10 cA cR a0 v, [(q3, .inl (cL, 1, .inr (.inl f3)))]]) (rs := [w11 cA a1 w, [(q4, .inl (cF, 1, .inr (.inr (.inr (.inl f4)))))]]) (cs1 := [w10 cA cR a0 v, [(q3, .inl (cL, 1, .inr (.inl f3)))]]) (bs1 := [w10 cA cR a0 v, w11 cA a1 w, [(q3, .inl (cL, 1, .inr (.inl f3)))], [(q4, .inl (cF, 1, .inr (.inr (.inr (.inl f4)))))]]) (rest := []) (st1 := [.int (1 : Int32)]) hw hA [0, 2] [1, 3] [2, 0, 3, 1] rfl rfl rfl rfl rfl (k_runL (nA := 7) (As := [.ref a0.1, .int p1, .int p2, .int p3, .int p4, .int p5, .ref q3]) (cs := [w10 cA cR a0 v, [(q3, .inl (cL, 1, .inr (.inl f3)))]]) (rs := [w11 cA a1 w, [(q4, .inl (cF, 1, .inr (.inr (.inr (.inl f4)))))]]) (rest := []) ⟨hx, hb, hml, hown, hts⟩ hz hzl hzx hw hA (t0L_addHopping l hlt D cA cR cL cF  a0 v p1 p2 p3 p4 p5 q3 f3 hu) gL_law_L_addHopping rfl rfl rfl (by decide +kernel) rfl ⟨Nat.le_of_ble_eq_true rfl, Nat.le_of_ble_eq_true rfl⟩ hl.1 rfl (Nat.le_of_ble_eq_true rfl) dL_law_304 ⟨(by show _ ≤ 601024; omega), (by show _ ≤ 7293034; omega)⟩ [0, 2] [1, 3] rfl rfl rfl) rfl (fun H locs hw => ?_)
    refine lv_istore (lv' := [(6, .int (1 : Int32)), (0, .ref b), (1, .ref a0.1), (2, .ref a1.1), (3, .ref q3), (4, .ref q4), (5, .int x5)]) hx hb dL_law_307 hl (by decide) rfl (fun ls hl => ?_)
    refine lv_aload_n hx hb dL_law_309 rfl (lv_at hl 3 rfl) ?_
    refine lv_aload_n hx hb dL_law_310 rfl (lv_at hl 1 rfl) ?_
    refine lv_iload hx hb dL_law_311 (lv_at hl 6 rfl) ?_
    refine lv_iconst (v := 1) hx hb dL_law_313 (by decide) ?_
    refine lv_iadd hx hb dL_law_314 ?_
    refine va_sld hx hb hX hbl hbA hw.2.2 h1 dL_law_315 ?_
    refine lv_topi (fun y ey => ?_)
    obtain rfl : p1 = y := (ey.trans e1).symm
    refine lv_aload_n hx hb dL_law_316 rfl (lv_at hl 1 rfl) ?_
    refine lv_iload hx hb dL_law_317 (lv_at hl 6 rfl) ?_
    refine lv_iconst (v := 2) hx hb dL_law_319 (by decide) ?_
    refine lv_iadd hx hb dL_law_320 ?_
    refine va_sld hx hb hX hbl hbA hw.2.2 h2 dL_law_321 ?_
    refine lv_topi (fun y ey => ?_)
    obtain rfl : p2 = y := (ey.trans e2).symm
    refine lv_aload_n hx hb dL_law_322 rfl (lv_at hl 1 rfl) ?_
    refine lv_iload hx hb dL_law_323 (lv_at hl 6 rfl) ?_
    refine lv_iconst (v := 3) hx hb dL_law_325 (by decide) ?_
    refine lv_iadd hx hb dL_law_326 ?_
    refine va_sld hx hb hX hbl hbA hw.2.2 h3 dL_law_327 ?_
    refine lv_topi (fun y ey => ?_)
    obtain rfl : p3 = y := (ey.trans e3).symm
    refine lv_aload_n hx hb dL_law_328 rfl (lv_at hl 1 rfl) ?_
    refine lv_iload hx hb dL_law_329 (lv_at hl 6 rfl) ?_
    refine lv_iconst (v := 4) hx hb dL_law_331 (by decide) ?_
    refine lv_iadd hx hb dL_law_332 ?_
    refine va_sld hx hb hX hbl hbA hw.2.2 h4 dL_law_333 ?_
    refine lv_topi (fun y ey => ?_)
    obtain rfl : p4 = y := (ey.trans e4).symm
    refine lv_aload_n hx hb dL_law_334 rfl (lv_at hl 1 rfl) ?_
    refine lv_iload hx hb dL_law_335 (lv_at hl 6 rfl) ?_
    refine lv_iconst (v := 5) hx hb dL_law_337 (by decide) ?_
    refine lv_iadd hx hb dL_law_338 ?_
    refine va_sld hx hb hX hbl hbA hw.2.2 h5 dL_law_339 ?_
    refine lv_topi (fun y ey => ?_)
    obtain rfl : p5 = y := (ey.trans e5).symm
    refine k_callV (ci := 11) (C := RX11) (T := TX11) (N := 14) (nA := 5) (As := [.int p1, .int p2, .int p3, .int p4, .int p5]) (cs := [w11 cA a1 w]) (rs := [w10 cA cR a0 v, [(q3, .inl (cL, 1, .inr (.inl f3)))], [(q4, .inl (cF, 1, .inr (.inr (.inr (.inl f4)))))]]) (cs1 := [w11 cA a1 z.2]) (bs1 := [w10 cA cR a0 v, w11 cA a1 z.2, [(q3, .inl (cL, 1, .inr (.inl f3)))], [(q4, .inl (cF, 1, .inr (.inr (.inr (.inl f4)))))]]) (rest := []) (st1 := [.int z.1]) ⟨hx, hb, hml, hown, hts⟩ hz hw hA (mX11_addHopping l D cA cR N a1 w p1 p2 p3 p4 p5 z hz1) gL_law_X11_addHopping rfl rfl rfl (by decide +kernel) rfl ⟨Nat.le_of_ble_eq_true rfl, Nat.le_of_ble_eq_true rfl⟩ rfl rfl hl.1 rfl (Nat.le_of_ble_eq_true rfl) dL_law_340 ⟨(by show _ ≤ 601024; omega), (by show _ ≤ 7293034; omega)⟩ [1] [0, 2, 3] [0, 3, 1, 2] rfl rfl rfl rfl rfl rfl (fun H locs hw => ?_)
    refine lv_istore (lv' := [(7, .int z.1), (6, .int (1 : Int32)), (0, .ref b), (1, .ref a0.1), (2, .ref a1.1), (3, .ref q3), (4, .ref q4), (5, .int x5)]) hx hb dL_law_343 hl (by decide) rfl (fun ls hl => ?_)
    refine lv_aload_n hx hb dL_law_345 rfl (lv_at hl 4 rfl) ?_
    refine k_callV (ci := 11) (C := RX11) (T := TX11) (N := 14) (nA := 0) (As := []) (cs := [w11 cA a1 z.2]) (rs := [w10 cA cR a0 v, [(q3, .inl (cL, 1, .inr (.inl f3)))], [(q4, .inl (cF, 1, .inr (.inr (.inr (.inl f4)))))]]) (cs1 := [w11 cA a1 z.2]) (bs1 := [w10 cA cR a0 v, w11 cA a1 z.2, [(q3, .inl (cL, 1, .inr (.inl f3)))], [(q4, .inl (cF, 1, .inr (.inr (.inr (.inl f4)))))]]) (rest := []) (st1 := [.int z.2.2.2.2.1]) ⟨hx, hb, hml, hown, hts⟩ hz hw hA (mX11_thrown l D cA cR a1 z.2 (z.2.2.2.2.1) rfl) gL_law_X11_thrown rfl rfl rfl (by decide +kernel) rfl ⟨Nat.le_of_ble_eq_true rfl, Nat.le_of_ble_eq_true rfl⟩ rfl rfl hl.1 rfl (Nat.le_of_ble_eq_true rfl) dL_law_346 ⟨(by show _ ≤ 601024; omega), (by show _ ≤ 7293034; omega)⟩ [1] [0, 2, 3] [0, 3, 1, 2] rfl rfl rfl rfl rfl rfl (fun H locs hw => ?_)
    refine lv_iload hx hb dL_law_349 (lv_at hl 1 rfl) ?_
    refine lv_icmp_eq (tgt := 356) hx hb dL_law_351 (by decide) (fun _ => ?_) (fun cc => absurd hth cc)
    refine lv_iload hx hb dL_law_356 (lv_at hl 1 rfl) ?_
    refine lv_if_ne (tgt := 373) hx hb dL_law_358 (by decide) (fun _ => ?_) (fun cc => absurd cc (by decide))
    refine lv_goto (tgt := 1547) hx hb dL_law_373 (by decide) ?_
    refine W.widen (k := k0 + 1) (n := s0 + 6) (by omega) (by omega) ?_
    exact kk v z.2 f3 f4 _ _ _ hR hw (lv_sub hl [2, 3, 4, 5, 6, 7] rfl)
  · skip
    refine lv_aload_n hx hb dL_law_272 rfl (lv_at hl 1 rfl) ?_
    refine lv_aload_n hx hb dL_law_273 rfl (lv_at hl 0 rfl) ?_
    refine lv_iload hx hb dL_law_274 (lv_at hl 5 rfl) ?_
    refine lv_iconst (v := 1) hx hb dL_law_276 (by decide) ?_
    refine lv_iadd hx hb dL_law_277 ?_
    refine va_sld hx hb hX hbl hbA hw.2.2 h1 dL_law_278 ?_
    refine lv_topi (fun y ey => ?_)
    obtain rfl : p1 = y := (ey.trans e1).symm
    refine lv_aload_n hx hb dL_law_279 rfl (lv_at hl 0 rfl) ?_
    refine lv_iload hx hb dL_law_280 (lv_at hl 5 rfl) ?_
    refine lv_iconst (v := 2) hx hb dL_law_282 (by decide) ?_
    refine lv_iadd hx hb dL_law_283 ?_
    refine va_sld hx hb hX hbl hbA hw.2.2 h2 dL_law_284 ?_
    refine lv_topi (fun y ey => ?_)
    obtain rfl : p2 = y := (ey.trans e2).symm
    refine lv_aload_n hx hb dL_law_285 rfl (lv_at hl 0 rfl) ?_
    refine lv_iload hx hb dL_law_286 (lv_at hl 5 rfl) ?_
    refine lv_iconst (v := 3) hx hb dL_law_288 (by decide) ?_
    refine lv_iadd hx hb dL_law_289 ?_
    refine va_sld hx hb hX hbl hbA hw.2.2 h3 dL_law_290 ?_
    refine lv_topi (fun y ey => ?_)
    obtain rfl : p3 = y := (ey.trans e3).symm
    refine lv_aload_n hx hb dL_law_291 rfl (lv_at hl 0 rfl) ?_
    refine lv_iload hx hb dL_law_292 (lv_at hl 5 rfl) ?_
    refine lv_iconst (v := 4) hx hb dL_law_294 (by decide) ?_
    refine lv_iadd hx hb dL_law_295 ?_
    refine va_sld hx hb hX hbl hbA hw.2.2 h4 dL_law_296 ?_
    refine lv_topi (fun y ey => ?_)
    obtain rfl : p4 = y := (ey.trans e4).symm
    refine lv_aload_n hx hb dL_law_297 rfl (lv_at hl 0 rfl) ?_
    refine lv_iload hx hb dL_law_298 (lv_at hl 5 rfl) ?_
    refine lv_iconst (v := 5) hx hb dL_law_300 (by decide) ?_
    refine lv_iadd hx hb dL_law_301 ?_
    refine va_sld hx hb hX hbl hbA hw.2.2 h5 dL_law_302 ?_
    refine lv_topi (fun y ey => ?_)
    obtain rfl : p5 = y := (ey.trans e5).symm
    refine lv_aload_n hx hb dL_law_303 rfl (lv_at hl 3 rfl) ?_
    refine k_call (cs := [w10 cA cR a0 v, [(q3, .inl (cL, 1, .inr (.inl f3)))]]) (rs := [w11 cA a1 w, [(q4, .inl (cF, 1, .inr (.inr (.inr (.inl f4)))))]]) (cs1 := [w10 cA cR a0 v, [(q3, .inl (cL, 1, .inr (.inl f3)))]]) (bs1 := [w10 cA cR a0 v, w11 cA a1 w, [(q3, .inl (cL, 1, .inr (.inl f3)))], [(q4, .inl (cF, 1, .inr (.inr (.inr (.inl f4)))))]]) (rest := []) (st1 := [.int (2 : Int32)]) hw hA [0, 2] [1, 3] [2, 0, 3, 1] rfl rfl rfl rfl rfl (k_runL (nA := 7) (As := [.ref a0.1, .int p1, .int p2, .int p3, .int p4, .int p5, .ref q3]) (cs := [w10 cA cR a0 v, [(q3, .inl (cL, 1, .inr (.inl f3)))]]) (rs := [w11 cA a1 w, [(q4, .inl (cF, 1, .inr (.inr (.inr (.inl f4)))))]]) (rest := []) ⟨hx, hb, hml, hown, hts⟩ hz hzl hzx hw hA (t1L_addHopping l hlt D cA cR cL cF  a0 v p1 p2 p3 p4 p5 q3 f3 hu) gL_law_L_addHopping rfl rfl rfl (by decide +kernel) rfl ⟨Nat.le_of_ble_eq_true rfl, Nat.le_of_ble_eq_true rfl⟩ hl.1 rfl (Nat.le_of_ble_eq_true rfl) dL_law_304 ⟨(by show _ ≤ 601024; omega), (by show _ ≤ 7293034; omega)⟩ [0, 2] [1, 3] rfl rfl rfl) rfl (fun H locs hw => ?_)
    refine lv_istore (lv' := [(6, .int (2 : Int32)), (0, .ref b), (1, .ref a0.1), (2, .ref a1.1), (3, .ref q3), (4, .ref q4), (5, .int x5)]) hx hb dL_law_307 hl (by decide) rfl (fun ls hl => ?_)
    refine lv_aload_n hx hb dL_law_309 rfl (lv_at hl 3 rfl) ?_
    refine lv_aload_n hx hb dL_law_310 rfl (lv_at hl 1 rfl) ?_
    refine lv_iload hx hb dL_law_311 (lv_at hl 6 rfl) ?_
    refine lv_iconst (v := 1) hx hb dL_law_313 (by decide) ?_
    refine lv_iadd hx hb dL_law_314 ?_
    refine va_sld hx hb hX hbl hbA hw.2.2 h1 dL_law_315 ?_
    refine lv_topi (fun y ey => ?_)
    obtain rfl : p1 = y := (ey.trans e1).symm
    refine lv_aload_n hx hb dL_law_316 rfl (lv_at hl 1 rfl) ?_
    refine lv_iload hx hb dL_law_317 (lv_at hl 6 rfl) ?_
    refine lv_iconst (v := 2) hx hb dL_law_319 (by decide) ?_
    refine lv_iadd hx hb dL_law_320 ?_
    refine va_sld hx hb hX hbl hbA hw.2.2 h2 dL_law_321 ?_
    refine lv_topi (fun y ey => ?_)
    obtain rfl : p2 = y := (ey.trans e2).symm
    refine lv_aload_n hx hb dL_law_322 rfl (lv_at hl 1 rfl) ?_
    refine lv_iload hx hb dL_law_323 (lv_at hl 6 rfl) ?_
    refine lv_iconst (v := 3) hx hb dL_law_325 (by decide) ?_
    refine lv_iadd hx hb dL_law_326 ?_
    refine va_sld hx hb hX hbl hbA hw.2.2 h3 dL_law_327 ?_
    refine lv_topi (fun y ey => ?_)
    obtain rfl : p3 = y := (ey.trans e3).symm
    refine lv_aload_n hx hb dL_law_328 rfl (lv_at hl 1 rfl) ?_
    refine lv_iload hx hb dL_law_329 (lv_at hl 6 rfl) ?_
    refine lv_iconst (v := 4) hx hb dL_law_331 (by decide) ?_
    refine lv_iadd hx hb dL_law_332 ?_
    refine va_sld hx hb hX hbl hbA hw.2.2 h4 dL_law_333 ?_
    refine lv_topi (fun y ey => ?_)
    obtain rfl : p4 = y := (ey.trans e4).symm
    refine lv_aload_n hx hb dL_law_334 rfl (lv_at hl 1 rfl) ?_
    refine lv_iload hx hb dL_law_335 (lv_at hl 6 rfl) ?_
    refine lv_iconst (v := 5) hx hb dL_law_337 (by decide) ?_
    refine lv_iadd hx hb dL_law_338 ?_
    refine va_sld hx hb hX hbl hbA hw.2.2 h5 dL_law_339 ?_
    refine lv_topi (fun y ey => ?_)
    obtain rfl : p5 = y := (ey.trans e5).symm
    refine k_callV (ci := 11) (C := RX11) (T := TX11) (N := 14) (nA := 5) (As := [.int p1, .int p2, .int p3, .int p4, .int p5]) (cs := [w11 cA a1 w]) (rs := [w10 cA cR a0 v, [(q3, .inl (cL, 1, .inr (.inl f3)))], [(q4, .inl (cF, 1, .inr (.inr (.inr (.inl f4)))))]]) (cs1 := [w11 cA a1 z.2]) (bs1 := [w10 cA cR a0 v, w11 cA a1 z.2, [(q3, .inl (cL, 1, .inr (.inl f3)))], [(q4, .inl (cF, 1, .inr (.inr (.inr (.inl f4)))))]]) (rest := []) (st1 := [.int z.1]) ⟨hx, hb, hml, hown, hts⟩ hz hw hA (mX11_addHopping l D cA cR N a1 w p1 p2 p3 p4 p5 z hz1) gL_law_X11_addHopping rfl rfl rfl (by decide +kernel) rfl ⟨Nat.le_of_ble_eq_true rfl, Nat.le_of_ble_eq_true rfl⟩ rfl rfl hl.1 rfl (Nat.le_of_ble_eq_true rfl) dL_law_340 ⟨(by show _ ≤ 601024; omega), (by show _ ≤ 7293034; omega)⟩ [1] [0, 2, 3] [0, 3, 1, 2] rfl rfl rfl rfl rfl rfl (fun H locs hw => ?_)
    refine lv_istore (lv' := [(7, .int z.1), (6, .int (2 : Int32)), (0, .ref b), (1, .ref a0.1), (2, .ref a1.1), (3, .ref q3), (4, .ref q4), (5, .int x5)]) hx hb dL_law_343 hl (by decide) rfl (fun ls hl => ?_)
    refine lv_aload_n hx hb dL_law_345 rfl (lv_at hl 4 rfl) ?_
    refine k_callV (ci := 11) (C := RX11) (T := TX11) (N := 14) (nA := 0) (As := []) (cs := [w11 cA a1 z.2]) (rs := [w10 cA cR a0 v, [(q3, .inl (cL, 1, .inr (.inl f3)))], [(q4, .inl (cF, 1, .inr (.inr (.inr (.inl f4)))))]]) (cs1 := [w11 cA a1 z.2]) (bs1 := [w10 cA cR a0 v, w11 cA a1 z.2, [(q3, .inl (cL, 1, .inr (.inl f3)))], [(q4, .inl (cF, 1, .inr (.inr (.inr (.inl f4)))))]]) (rest := []) (st1 := [.int z.2.2.2.2.1]) ⟨hx, hb, hml, hown, hts⟩ hz hw hA (mX11_thrown l D cA cR a1 z.2 (z.2.2.2.2.1) rfl) gL_law_X11_thrown rfl rfl rfl (by decide +kernel) rfl ⟨Nat.le_of_ble_eq_true rfl, Nat.le_of_ble_eq_true rfl⟩ rfl rfl hl.1 rfl (Nat.le_of_ble_eq_true rfl) dL_law_346 ⟨(by show _ ≤ 601024; omega), (by show _ ≤ 7293034; omega)⟩ [1] [0, 2, 3] [0, 3, 1, 2] rfl rfl rfl rfl rfl rfl (fun H locs hw => ?_)
    refine lv_iload hx hb dL_law_349 (lv_at hl 1 rfl) ?_
    refine lv_icmp_eq (tgt := 356) hx hb dL_law_351 (by decide) (fun _ => ?_) (fun cc => absurd hth cc)
    refine lv_iload hx hb dL_law_356 (lv_at hl 1 rfl) ?_
    refine lv_if_ne (tgt := 373) hx hb dL_law_358 (by decide) (fun _ => ?_) (fun cc => absurd cc (by decide))
    refine lv_goto (tgt := 1547) hx hb dL_law_373 (by decide) ?_
    refine W.widen (k := k0 + 1) (n := s0 + 6) (by omega) (by omega) ?_
    exact kk v z.2 f3 f4 _ _ _ hR hw (lv_sub hl [2, 3, 4, 5, 6, 7] rfl)
set_option maxHeartbeats 4000000 in
set_option maxRecDepth 100000 in
theorem lk_2 {p : Program} {l : Launch} {e : Env} {s : State} {m : MethodId} {below : List Frame} {meth : Method} {c : Code} {D : va_G} {cA cR cL cF : ClassId} {b L : Nat} {xs : Nat → Int32} {RR : Nat → V10 → V11 → Prop} {N : Nat} (hpu : PU_removeSignal RR N) (X : LX p l s m c b L xs D cA cR cL cF) {k0 s0 : Nat} (hk0 : k0 + 1 ≤ 601024) (hs0 : s0 + 6 ≤ 7293034) {cn : Nat} (hcn : cn < 512) {x5 : Int32} {p1 : Int32} (h1 : vp_in (x5 + 1) L) (e1 : xs (x5 + 1).toNatClampNeg = p1) {v : V10} {w : V11} {a0 : A10} {a1 : A11} {q3 q4 : Nat} {f3 : Nat → Int64} {f4 : Nat → UInt64} {H : Heap} {locs : List Loc} {ls : Array Slot} {Q : State → Prop} (hR : RR cn v w) (hw : ww (fun q : Nat => s.heap.size ≤ q) s.heap D [w10 cA cR a0 v, w11 cA a1 w, [(q3, .inl (cL, 1, .inr (.inl f3)))], [(q4, .inl (cF, 1, .inr (.inr (.inr (.inl f4)))))]] H locs) (hl : lv_has ls 9 [(0, .ref b), (1, .ref a0.1), (2, .ref a1.1), (3, .ref q3), (4, .ref q4), (5, .int x5)])
    (kk : ∀ (v : V10) (w : V11) (f3 : Nat → Int64) (f4 : Nat → UInt64) (H : Heap) (locs : List Loc) (ls : Array Slot), RR (cn + 1) v w → ww (fun q : Nat => s.heap.size ≤ q) s.heap D [w10 cA cR a0 v, w11 cA a1 w, [(q3, .inl (cL, 1, .inr (.inl f3)))], [(q4, .inl (cF, 1, .inr (.inr (.inr (.inl f4)))))]] H locs → lv_has ls 9 [(0, .ref b), (1, .ref a0.1), (2, .ref a1.1), (3, .ref q3), (4, .ref q4), (5, .int x5)] → W p l e room_1 s m #[Value.ref b] below meth c H locs (k0 + 1) (s0 + 6) Q (F0 m 1547 ls [])) : W p l e room_1 s m #[Value.ref b] below meth c H locs k0 s0 Q (F0 m 376 ls []) := by
  obtain ⟨hx, hb, hml, hown, hts, hX, hbl, hz, hzl, hzx, hlt⟩ := X
  have hA : ∀ q : Nat, s.heap.size ≤ q → (fun q : Nat => s.heap.size ≤ q) q := fun _ h => h
  have hbA : ¬ (fun q : Nat => s.heap.size ≤ q) b := Nat.not_le.mpr hbl
  rcases hpu cn v w p1 hcn hR with ⟨u, z, hu, hz1, hth, hret, hR⟩ | ⟨z, hu, hz1, hth, hR⟩
  · skip
    refine lv_aload_n hx hb dL_law_376 rfl (lv_at hl 1 rfl) ?_
    refine lv_aload_n hx hb dL_law_377 rfl (lv_at hl 0 rfl) ?_
    refine lv_iload hx hb dL_law_378 (lv_at hl 5 rfl) ?_
    refine lv_iconst (v := 1) hx hb dL_law_380 (by decide) ?_
    refine lv_iadd hx hb dL_law_381 ?_
    refine va_sld hx hb hX hbl hbA hw.2.2 h1 dL_law_382 ?_
    refine lv_topi (fun y ey => ?_)
    obtain rfl : p1 = y := (ey.trans e1).symm
    refine lv_aload_n hx hb dL_law_383 rfl (lv_at hl 3 rfl) ?_
    refine k_call (cs := [w10 cA cR a0 v, [(q3, .inl (cL, 1, .inr (.inl f3)))]]) (rs := [w11 cA a1 w, [(q4, .inl (cF, 1, .inr (.inr (.inr (.inl f4)))))]]) (cs1 := [w10 cA cR a0 u.2, [(q3, .inl (cL, 1, .inr (.inl (vp_updL f3 (0 : Int32).toNatClampNeg u.1.toInt64))))]]) (bs1 := [w10 cA cR a0 u.2, w11 cA a1 w, [(q3, .inl (cL, 1, .inr (.inl (vp_updL f3 (0 : Int32).toNatClampNeg u.1.toInt64))))], [(q4, .inl (cF, 1, .inr (.inr (.inr (.inl f4)))))]]) (rest := []) (st1 := [.int (0 : Int32)]) hw hA [0, 2] [1, 3] [2, 0, 3, 1] rfl rfl rfl rfl rfl (k_runL (nA := 3) (As := [.ref a0.1, .int p1, .ref q3]) (cs := [w10 cA cR a0 v, [(q3, .inl (cL, 1, .inr (.inl f3)))]]) (rs := [w11 cA a1 w, [(q4, .inl (cF, 1, .inr (.inr (.inr (.inl f4)))))]]) (rest := []) ⟨hx, hb, hml, hown, hts⟩ hz hzl hzx hw hA (mL_removeSignal l D cA cR cL cF  a0 v p1 q3 f3 u hu) gL_law_L_removeSignal rfl rfl rfl (by decide +kernel) rfl ⟨Nat.le_of_ble_eq_true rfl, Nat.le_of_ble_eq_true rfl⟩ hl.1 rfl (Nat.le_of_ble_eq_true rfl) dL_law_384 ⟨(by show _ ≤ 601024; omega), (by show _ ≤ 7293034; omega)⟩ [0, 2] [1, 3] rfl rfl rfl) rfl (fun H locs hw => ?_)
    refine lv_istore (lv' := [(6, .int (0 : Int32)), (0, .ref b), (1, .ref a0.1), (2, .ref a1.1), (3, .ref q3), (4, .ref q4), (5, .int x5)]) hx hb dL_law_387 hl (by decide) rfl (fun ls hl => ?_)
    refine lv_aload_n hx hb dL_law_389 rfl (lv_at hl 3 rfl) ?_
    refine lv_aload_n hx hb dL_law_390 rfl (lv_at hl 1 rfl) ?_
    refine lv_iload hx hb dL_law_391 (lv_at hl 6 rfl) ?_
    refine lv_iconst (v := 1) hx hb dL_law_393 (by decide) ?_
    refine lv_iadd hx hb dL_law_394 ?_
    refine va_sld hx hb hX hbl hbA hw.2.2 h1 dL_law_395 ?_
    refine lv_topi (fun y ey => ?_)
    obtain rfl : p1 = y := (ey.trans e1).symm
    refine k_callV (ci := 11) (C := RX11) (T := TX11) (N := 14) (nA := 1) (As := [.int p1]) (cs := [w11 cA a1 w]) (rs := [w10 cA cR a0 u.2, [(q3, .inl (cL, 1, .inr (.inl (vp_updL f3 (0 : Int32).toNatClampNeg u.1.toInt64))))], [(q4, .inl (cF, 1, .inr (.inr (.inr (.inl f4)))))]]) (cs1 := [w11 cA a1 z.2]) (bs1 := [w10 cA cR a0 u.2, w11 cA a1 z.2, [(q3, .inl (cL, 1, .inr (.inl (vp_updL f3 (0 : Int32).toNatClampNeg u.1.toInt64))))], [(q4, .inl (cF, 1, .inr (.inr (.inr (.inl f4)))))]]) (rest := []) (st1 := [.int z.1]) ⟨hx, hb, hml, hown, hts⟩ hz hw hA (mX11_removeSignal l D cA cR N a1 w p1 z hz1) gL_law_X11_removeSignal rfl rfl rfl (by decide +kernel) rfl ⟨Nat.le_of_ble_eq_true rfl, Nat.le_of_ble_eq_true rfl⟩ rfl rfl hl.1 rfl (Nat.le_of_ble_eq_true rfl) dL_law_396 ⟨(by show _ ≤ 601024; omega), (by show _ ≤ 7293034; omega)⟩ [1] [0, 2, 3] [0, 3, 1, 2] rfl rfl rfl rfl rfl rfl (fun H locs hw => ?_)
    refine lv_istore (lv' := [(7, .int z.1), (6, .int (0 : Int32)), (0, .ref b), (1, .ref a0.1), (2, .ref a1.1), (3, .ref q3), (4, .ref q4), (5, .int x5)]) hx hb dL_law_399 hl (by decide) rfl (fun ls hl => ?_)
    refine lv_aload_n hx hb dL_law_401 rfl (lv_at hl 4 rfl) ?_
    refine k_callV (ci := 11) (C := RX11) (T := TX11) (N := 14) (nA := 0) (As := []) (cs := [w11 cA a1 z.2]) (rs := [w10 cA cR a0 u.2, [(q3, .inl (cL, 1, .inr (.inl (vp_updL f3 (0 : Int32).toNatClampNeg u.1.toInt64))))], [(q4, .inl (cF, 1, .inr (.inr (.inr (.inl f4)))))]]) (cs1 := [w11 cA a1 z.2]) (bs1 := [w10 cA cR a0 u.2, w11 cA a1 z.2, [(q3, .inl (cL, 1, .inr (.inl (vp_updL f3 (0 : Int32).toNatClampNeg u.1.toInt64))))], [(q4, .inl (cF, 1, .inr (.inr (.inr (.inl f4)))))]]) (rest := []) (st1 := [.int z.2.2.2.2.1]) ⟨hx, hb, hml, hown, hts⟩ hz hw hA (mX11_thrown l D cA cR a1 z.2 (z.2.2.2.2.1) rfl) gL_law_X11_thrown rfl rfl rfl (by decide +kernel) rfl ⟨Nat.le_of_ble_eq_true rfl, Nat.le_of_ble_eq_true rfl⟩ rfl rfl hl.1 rfl (Nat.le_of_ble_eq_true rfl) dL_law_402 ⟨(by show _ ≤ 601024; omega), (by show _ ≤ 7293034; omega)⟩ [1] [0, 2, 3] [0, 3, 1, 2] rfl rfl rfl rfl rfl rfl (fun H locs hw => ?_)
    refine lv_iload hx hb dL_law_405 (lv_at hl 1 rfl) ?_
    refine lv_icmp_eq (tgt := 412) hx hb dL_law_407 (by decide) (fun _ => ?_) (fun cc => absurd hth cc)
    refine lv_iload hx hb dL_law_412 (lv_at hl 1 rfl) ?_
    refine lv_if_ne (tgt := 429) hx hb dL_law_414 (by decide) (fun cc => absurd rfl cc) (fun _ => ?_)
    refine lv_aload_n hx hb dL_law_417 rfl (lv_at hl 5 rfl) ?_
    refine lv_iconst (v := 0) hx hb dL_law_418 (by decide) ?_
    refine k_lald hx hb hzl hw 2 rfl (by unfold vp_in; decide) dL_law_419 ?_
    refine lv_iload hx hb dL_law_420 (lv_at hl 0 rfl) ?_
    refine lv_i2l hx hb dL_law_422 rfl ?_
    refine W.lcmp hx hb dL_law_423 ?_
    refine lv_if_eq (tgt := 429) hx hb dL_law_424 (by decide) (fun _ => ?_) (fun cc => absurd (lcmp_same (by rw [← hret]; exact pk_uLs)) cc)
    refine lv_goto (tgt := 1547) hx hb dL_law_429 (by decide) ?_
    refine W.widen (k := k0 + 1) (n := s0 + 6) (by omega) (by omega) ?_
    exact kk u.2 z.2 (vp_updL f3 (0 : Int32).toNatClampNeg u.1.toInt64) f4 _ _ _ hR hw (lv_sub hl [2, 3, 4, 5, 6, 7] rfl)
  · skip
    refine lv_aload_n hx hb dL_law_376 rfl (lv_at hl 1 rfl) ?_
    refine lv_aload_n hx hb dL_law_377 rfl (lv_at hl 0 rfl) ?_
    refine lv_iload hx hb dL_law_378 (lv_at hl 5 rfl) ?_
    refine lv_iconst (v := 1) hx hb dL_law_380 (by decide) ?_
    refine lv_iadd hx hb dL_law_381 ?_
    refine va_sld hx hb hX hbl hbA hw.2.2 h1 dL_law_382 ?_
    refine lv_topi (fun y ey => ?_)
    obtain rfl : p1 = y := (ey.trans e1).symm
    refine lv_aload_n hx hb dL_law_383 rfl (lv_at hl 3 rfl) ?_
    refine k_call (cs := [w10 cA cR a0 v, [(q3, .inl (cL, 1, .inr (.inl f3)))]]) (rs := [w11 cA a1 w, [(q4, .inl (cF, 1, .inr (.inr (.inr (.inl f4)))))]]) (cs1 := [w10 cA cR a0 v, [(q3, .inl (cL, 1, .inr (.inl f3)))]]) (bs1 := [w10 cA cR a0 v, w11 cA a1 w, [(q3, .inl (cL, 1, .inr (.inl f3)))], [(q4, .inl (cF, 1, .inr (.inr (.inr (.inl f4)))))]]) (rest := []) (st1 := [.int (1 : Int32)]) hw hA [0, 2] [1, 3] [2, 0, 3, 1] rfl rfl rfl rfl rfl (k_runL (nA := 3) (As := [.ref a0.1, .int p1, .ref q3]) (cs := [w10 cA cR a0 v, [(q3, .inl (cL, 1, .inr (.inl f3)))]]) (rs := [w11 cA a1 w, [(q4, .inl (cF, 1, .inr (.inr (.inr (.inl f4)))))]]) (rest := []) ⟨hx, hb, hml, hown, hts⟩ hz hzl hzx hw hA (t0L_removeSignal l hlt D cA cR cL cF  a0 v p1 q3 f3 hu) gL_law_L_removeSignal rfl rfl rfl (by decide +kernel) rfl ⟨Nat.le_of_ble_eq_true rfl, Nat.le_of_ble_eq_true rfl⟩ hl.1 rfl (Nat.le_of_ble_eq_true rfl) dL_law_384 ⟨(by show _ ≤ 601024; omega), (by show _ ≤ 7293034; omega)⟩ [0, 2] [1, 3] rfl rfl rfl) rfl (fun H locs hw => ?_)
    refine lv_istore (lv' := [(6, .int (1 : Int32)), (0, .ref b), (1, .ref a0.1), (2, .ref a1.1), (3, .ref q3), (4, .ref q4), (5, .int x5)]) hx hb dL_law_387 hl (by decide) rfl (fun ls hl => ?_)
    refine lv_aload_n hx hb dL_law_389 rfl (lv_at hl 3 rfl) ?_
    refine lv_aload_n hx hb dL_law_390 rfl (lv_at hl 1 rfl) ?_
    refine lv_iload hx hb dL_law_391 (lv_at hl 6 rfl) ?_
    refine lv_iconst (v := 1) hx hb dL_law_393 (by decide) ?_
    refine lv_iadd hx hb dL_law_394 ?_
    refine va_sld hx hb hX hbl hbA hw.2.2 h1 dL_law_395 ?_
    refine lv_topi (fun y ey => ?_)
    obtain rfl : p1 = y := (ey.trans e1).symm
    refine k_callV (ci := 11) (C := RX11) (T := TX11) (N := 14) (nA := 1) (As := [.int p1]) (cs := [w11 cA a1 w]) (rs := [w10 cA cR a0 v, [(q3, .inl (cL, 1, .inr (.inl f3)))], [(q4, .inl (cF, 1, .inr (.inr (.inr (.inl f4)))))]]) (cs1 := [w11 cA a1 z.2]) (bs1 := [w10 cA cR a0 v, w11 cA a1 z.2, [(q3, .inl (cL, 1, .inr (.inl f3)))], [(q4, .inl (cF, 1, .inr (.inr (.inr (.inl f4)))))]]) (rest := []) (st1 := [.int z.1]) ⟨hx, hb, hml, hown, hts⟩ hz hw hA (mX11_removeSignal l D cA cR N a1 w p1 z hz1) gL_law_X11_removeSignal rfl rfl rfl (by decide +kernel) rfl ⟨Nat.le_of_ble_eq_true rfl, Nat.le_of_ble_eq_true rfl⟩ rfl rfl hl.1 rfl (Nat.le_of_ble_eq_true rfl) dL_law_396 ⟨(by show _ ≤ 601024; omega), (by show _ ≤ 7293034; omega)⟩ [1] [0, 2, 3] [0, 3, 1, 2] rfl rfl rfl rfl rfl rfl (fun H locs hw => ?_)
    refine lv_istore (lv' := [(7, .int z.1), (6, .int (1 : Int32)), (0, .ref b), (1, .ref a0.1), (2, .ref a1.1), (3, .ref q3), (4, .ref q4), (5, .int x5)]) hx hb dL_law_399 hl (by decide) rfl (fun ls hl => ?_)
    refine lv_aload_n hx hb dL_law_401 rfl (lv_at hl 4 rfl) ?_
    refine k_callV (ci := 11) (C := RX11) (T := TX11) (N := 14) (nA := 0) (As := []) (cs := [w11 cA a1 z.2]) (rs := [w10 cA cR a0 v, [(q3, .inl (cL, 1, .inr (.inl f3)))], [(q4, .inl (cF, 1, .inr (.inr (.inr (.inl f4)))))]]) (cs1 := [w11 cA a1 z.2]) (bs1 := [w10 cA cR a0 v, w11 cA a1 z.2, [(q3, .inl (cL, 1, .inr (.inl f3)))], [(q4, .inl (cF, 1, .inr (.inr (.inr (.inl f4)))))]]) (rest := []) (st1 := [.int z.2.2.2.2.1]) ⟨hx, hb, hml, hown, hts⟩ hz hw hA (mX11_thrown l D cA cR a1 z.2 (z.2.2.2.2.1) rfl) gL_law_X11_thrown rfl rfl rfl (by decide +kernel) rfl ⟨Nat.le_of_ble_eq_true rfl, Nat.le_of_ble_eq_true rfl⟩ rfl rfl hl.1 rfl (Nat.le_of_ble_eq_true rfl) dL_law_402 ⟨(by show _ ≤ 601024; omega), (by show _ ≤ 7293034; omega)⟩ [1] [0, 2, 3] [0, 3, 1, 2] rfl rfl rfl rfl rfl rfl (fun H locs hw => ?_)
    refine lv_iload hx hb dL_law_405 (lv_at hl 1 rfl) ?_
    refine lv_icmp_eq (tgt := 412) hx hb dL_law_407 (by decide) (fun _ => ?_) (fun cc => absurd hth cc)
    refine lv_iload hx hb dL_law_412 (lv_at hl 1 rfl) ?_
    refine lv_if_ne (tgt := 429) hx hb dL_law_414 (by decide) (fun _ => ?_) (fun cc => absurd cc (by decide))
    refine lv_goto (tgt := 1547) hx hb dL_law_429 (by decide) ?_
    refine W.widen (k := k0 + 1) (n := s0 + 6) (by omega) (by omega) ?_
    exact kk v z.2 f3 f4 _ _ _ hR hw (lv_sub hl [2, 3, 4, 5, 6, 7] rfl)
set_option maxHeartbeats 4000000 in
set_option maxRecDepth 100000 in
theorem lk_3 {p : Program} {l : Launch} {e : Env} {s : State} {m : MethodId} {below : List Frame} {meth : Method} {c : Code} {D : va_G} {cA cR cL cF : ClassId} {b L : Nat} {xs : Nat → Int32} {RR : Nat → V10 → V11 → Prop} {N : Nat} (hpu : PU_setLevels RR N) (X : LX p l s m c b L xs D cA cR cL cF) {k0 s0 : Nat} (hk0 : k0 + 1 ≤ 601024) (hs0 : s0 + 6 ≤ 7293034) {cn : Nat} (hcn : cn < 512) {x5 : Int32} {p1 : Int32} (h1 : vp_in (x5 + 1) L) (e1 : xs (x5 + 1).toNatClampNeg = p1) {p2 : Int32} (h2 : vp_in (x5 + 2) L) (e2 : xs (x5 + 2).toNatClampNeg = p2) {v : V10} {w : V11} {a0 : A10} {a1 : A11} {q3 q4 : Nat} {f3 : Nat → Int64} {f4 : Nat → UInt64} {H : Heap} {locs : List Loc} {ls : Array Slot} {Q : State → Prop} (hR : RR cn v w) (hw : ww (fun q : Nat => s.heap.size ≤ q) s.heap D [w10 cA cR a0 v, w11 cA a1 w, [(q3, .inl (cL, 1, .inr (.inl f3)))], [(q4, .inl (cF, 1, .inr (.inr (.inr (.inl f4)))))]] H locs) (hl : lv_has ls 9 [(0, .ref b), (1, .ref a0.1), (2, .ref a1.1), (3, .ref q3), (4, .ref q4), (5, .int x5)])
    (kk : ∀ (v : V10) (w : V11) (f3 : Nat → Int64) (f4 : Nat → UInt64) (H : Heap) (locs : List Loc) (ls : Array Slot), RR (cn + 1) v w → ww (fun q : Nat => s.heap.size ≤ q) s.heap D [w10 cA cR a0 v, w11 cA a1 w, [(q3, .inl (cL, 1, .inr (.inl f3)))], [(q4, .inl (cF, 1, .inr (.inr (.inr (.inl f4)))))]] H locs → lv_has ls 9 [(0, .ref b), (1, .ref a0.1), (2, .ref a1.1), (3, .ref q3), (4, .ref q4), (5, .int x5)] → W p l e room_1 s m #[Value.ref b] below meth c H locs (k0 + 1) (s0 + 6) Q (F0 m 1547 ls [])) : W p l e room_1 s m #[Value.ref b] below meth c H locs k0 s0 Q (F0 m 432 ls []) := by
  obtain ⟨hx, hb, hml, hown, hts, hX, hbl, hz, hzl, hzx, hlt⟩ := X
  have hA : ∀ q : Nat, s.heap.size ≤ q → (fun q : Nat => s.heap.size ≤ q) q := fun _ h => h
  have hbA : ¬ (fun q : Nat => s.heap.size ≤ q) b := Nat.not_le.mpr hbl
  rcases hpu cn v w p1 p2 hcn hR with ⟨u, z, hu, hz1, hth, hret, hR⟩ | ⟨z, hu, hz1, hth, hR⟩
  · skip
    refine lv_aload_n hx hb dL_law_432 rfl (lv_at hl 1 rfl) ?_
    refine lv_aload_n hx hb dL_law_433 rfl (lv_at hl 0 rfl) ?_
    refine lv_iload hx hb dL_law_434 (lv_at hl 5 rfl) ?_
    refine lv_iconst (v := 1) hx hb dL_law_436 (by decide) ?_
    refine lv_iadd hx hb dL_law_437 ?_
    refine va_sld hx hb hX hbl hbA hw.2.2 h1 dL_law_438 ?_
    refine lv_topi (fun y ey => ?_)
    obtain rfl : p1 = y := (ey.trans e1).symm
    refine lv_aload_n hx hb dL_law_439 rfl (lv_at hl 0 rfl) ?_
    refine lv_iload hx hb dL_law_440 (lv_at hl 5 rfl) ?_
    refine lv_iconst (v := 2) hx hb dL_law_442 (by decide) ?_
    refine lv_iadd hx hb dL_law_443 ?_
    refine va_sld hx hb hX hbl hbA hw.2.2 h2 dL_law_444 ?_
    refine lv_topi (fun y ey => ?_)
    obtain rfl : p2 = y := (ey.trans e2).symm
    refine lv_aload_n hx hb dL_law_445 rfl (lv_at hl 3 rfl) ?_
    refine k_call (cs := [w10 cA cR a0 v, [(q3, .inl (cL, 1, .inr (.inl f3)))]]) (rs := [w11 cA a1 w, [(q4, .inl (cF, 1, .inr (.inr (.inr (.inl f4)))))]]) (cs1 := [w10 cA cR a0 u.2, [(q3, .inl (cL, 1, .inr (.inl (vp_updL f3 (0 : Int32).toNatClampNeg u.1.toInt64))))]]) (bs1 := [w10 cA cR a0 u.2, w11 cA a1 w, [(q3, .inl (cL, 1, .inr (.inl (vp_updL f3 (0 : Int32).toNatClampNeg u.1.toInt64))))], [(q4, .inl (cF, 1, .inr (.inr (.inr (.inl f4)))))]]) (rest := []) (st1 := [.int (0 : Int32)]) hw hA [0, 2] [1, 3] [2, 0, 3, 1] rfl rfl rfl rfl rfl (k_runL (nA := 4) (As := [.ref a0.1, .int p1, .int p2, .ref q3]) (cs := [w10 cA cR a0 v, [(q3, .inl (cL, 1, .inr (.inl f3)))]]) (rs := [w11 cA a1 w, [(q4, .inl (cF, 1, .inr (.inr (.inr (.inl f4)))))]]) (rest := []) ⟨hx, hb, hml, hown, hts⟩ hz hzl hzx hw hA (mL_setLevels l D cA cR cL cF  a0 v p1 p2 q3 f3 u hu) gL_law_L_setLevels rfl rfl rfl (by decide +kernel) rfl ⟨Nat.le_of_ble_eq_true rfl, Nat.le_of_ble_eq_true rfl⟩ hl.1 rfl (Nat.le_of_ble_eq_true rfl) dL_law_446 ⟨(by show _ ≤ 601024; omega), (by show _ ≤ 7293034; omega)⟩ [0, 2] [1, 3] rfl rfl rfl) rfl (fun H locs hw => ?_)
    refine lv_istore (lv' := [(6, .int (0 : Int32)), (0, .ref b), (1, .ref a0.1), (2, .ref a1.1), (3, .ref q3), (4, .ref q4), (5, .int x5)]) hx hb dL_law_449 hl (by decide) rfl (fun ls hl => ?_)
    refine lv_aload_n hx hb dL_law_451 rfl (lv_at hl 3 rfl) ?_
    refine lv_aload_n hx hb dL_law_452 rfl (lv_at hl 1 rfl) ?_
    refine lv_iload hx hb dL_law_453 (lv_at hl 6 rfl) ?_
    refine lv_iconst (v := 1) hx hb dL_law_455 (by decide) ?_
    refine lv_iadd hx hb dL_law_456 ?_
    refine va_sld hx hb hX hbl hbA hw.2.2 h1 dL_law_457 ?_
    refine lv_topi (fun y ey => ?_)
    obtain rfl : p1 = y := (ey.trans e1).symm
    refine lv_aload_n hx hb dL_law_458 rfl (lv_at hl 1 rfl) ?_
    refine lv_iload hx hb dL_law_459 (lv_at hl 6 rfl) ?_
    refine lv_iconst (v := 2) hx hb dL_law_461 (by decide) ?_
    refine lv_iadd hx hb dL_law_462 ?_
    refine va_sld hx hb hX hbl hbA hw.2.2 h2 dL_law_463 ?_
    refine lv_topi (fun y ey => ?_)
    obtain rfl : p2 = y := (ey.trans e2).symm
    refine k_callV (ci := 11) (C := RX11) (T := TX11) (N := 14) (nA := 2) (As := [.int p1, .int p2]) (cs := [w11 cA a1 w]) (rs := [w10 cA cR a0 u.2, [(q3, .inl (cL, 1, .inr (.inl (vp_updL f3 (0 : Int32).toNatClampNeg u.1.toInt64))))], [(q4, .inl (cF, 1, .inr (.inr (.inr (.inl f4)))))]]) (cs1 := [w11 cA a1 z.2]) (bs1 := [w10 cA cR a0 u.2, w11 cA a1 z.2, [(q3, .inl (cL, 1, .inr (.inl (vp_updL f3 (0 : Int32).toNatClampNeg u.1.toInt64))))], [(q4, .inl (cF, 1, .inr (.inr (.inr (.inl f4)))))]]) (rest := []) (st1 := [.int z.1]) ⟨hx, hb, hml, hown, hts⟩ hz hw hA (mX11_setLevels l D cA cR N a1 w p1 p2 z hz1) gL_law_X11_setLevels rfl rfl rfl (by decide +kernel) rfl ⟨Nat.le_of_ble_eq_true rfl, Nat.le_of_ble_eq_true rfl⟩ rfl rfl hl.1 rfl (Nat.le_of_ble_eq_true rfl) dL_law_464 ⟨(by show _ ≤ 601024; omega), (by show _ ≤ 7293034; omega)⟩ [1] [0, 2, 3] [0, 3, 1, 2] rfl rfl rfl rfl rfl rfl (fun H locs hw => ?_)
    refine lv_istore (lv' := [(7, .int z.1), (6, .int (0 : Int32)), (0, .ref b), (1, .ref a0.1), (2, .ref a1.1), (3, .ref q3), (4, .ref q4), (5, .int x5)]) hx hb dL_law_467 hl (by decide) rfl (fun ls hl => ?_)
    refine lv_aload_n hx hb dL_law_469 rfl (lv_at hl 4 rfl) ?_
    refine k_callV (ci := 11) (C := RX11) (T := TX11) (N := 14) (nA := 0) (As := []) (cs := [w11 cA a1 z.2]) (rs := [w10 cA cR a0 u.2, [(q3, .inl (cL, 1, .inr (.inl (vp_updL f3 (0 : Int32).toNatClampNeg u.1.toInt64))))], [(q4, .inl (cF, 1, .inr (.inr (.inr (.inl f4)))))]]) (cs1 := [w11 cA a1 z.2]) (bs1 := [w10 cA cR a0 u.2, w11 cA a1 z.2, [(q3, .inl (cL, 1, .inr (.inl (vp_updL f3 (0 : Int32).toNatClampNeg u.1.toInt64))))], [(q4, .inl (cF, 1, .inr (.inr (.inr (.inl f4)))))]]) (rest := []) (st1 := [.int z.2.2.2.2.1]) ⟨hx, hb, hml, hown, hts⟩ hz hw hA (mX11_thrown l D cA cR a1 z.2 (z.2.2.2.2.1) rfl) gL_law_X11_thrown rfl rfl rfl (by decide +kernel) rfl ⟨Nat.le_of_ble_eq_true rfl, Nat.le_of_ble_eq_true rfl⟩ rfl rfl hl.1 rfl (Nat.le_of_ble_eq_true rfl) dL_law_470 ⟨(by show _ ≤ 601024; omega), (by show _ ≤ 7293034; omega)⟩ [1] [0, 2, 3] [0, 3, 1, 2] rfl rfl rfl rfl rfl rfl (fun H locs hw => ?_)
    refine lv_iload hx hb dL_law_473 (lv_at hl 1 rfl) ?_
    refine lv_icmp_eq (tgt := 480) hx hb dL_law_475 (by decide) (fun _ => ?_) (fun cc => absurd hth cc)
    refine lv_iload hx hb dL_law_480 (lv_at hl 1 rfl) ?_
    refine lv_if_ne (tgt := 497) hx hb dL_law_482 (by decide) (fun cc => absurd rfl cc) (fun _ => ?_)
    refine lv_aload_n hx hb dL_law_485 rfl (lv_at hl 5 rfl) ?_
    refine lv_iconst (v := 0) hx hb dL_law_486 (by decide) ?_
    refine k_lald hx hb hzl hw 2 rfl (by unfold vp_in; decide) dL_law_487 ?_
    refine lv_iload hx hb dL_law_488 (lv_at hl 0 rfl) ?_
    refine lv_i2l hx hb dL_law_490 rfl ?_
    refine W.lcmp hx hb dL_law_491 ?_
    refine lv_if_eq (tgt := 497) hx hb dL_law_492 (by decide) (fun _ => ?_) (fun cc => absurd (lcmp_same (by rw [← hret]; exact pk_uLs)) cc)
    refine lv_goto (tgt := 1547) hx hb dL_law_497 (by decide) ?_
    refine W.widen (k := k0 + 1) (n := s0 + 6) (by omega) (by omega) ?_
    exact kk u.2 z.2 (vp_updL f3 (0 : Int32).toNatClampNeg u.1.toInt64) f4 _ _ _ hR hw (lv_sub hl [2, 3, 4, 5, 6, 7] rfl)
  · skip
    refine lv_aload_n hx hb dL_law_432 rfl (lv_at hl 1 rfl) ?_
    refine lv_aload_n hx hb dL_law_433 rfl (lv_at hl 0 rfl) ?_
    refine lv_iload hx hb dL_law_434 (lv_at hl 5 rfl) ?_
    refine lv_iconst (v := 1) hx hb dL_law_436 (by decide) ?_
    refine lv_iadd hx hb dL_law_437 ?_
    refine va_sld hx hb hX hbl hbA hw.2.2 h1 dL_law_438 ?_
    refine lv_topi (fun y ey => ?_)
    obtain rfl : p1 = y := (ey.trans e1).symm
    refine lv_aload_n hx hb dL_law_439 rfl (lv_at hl 0 rfl) ?_
    refine lv_iload hx hb dL_law_440 (lv_at hl 5 rfl) ?_
    refine lv_iconst (v := 2) hx hb dL_law_442 (by decide) ?_
    refine lv_iadd hx hb dL_law_443 ?_
    refine va_sld hx hb hX hbl hbA hw.2.2 h2 dL_law_444 ?_
    refine lv_topi (fun y ey => ?_)
    obtain rfl : p2 = y := (ey.trans e2).symm
    refine lv_aload_n hx hb dL_law_445 rfl (lv_at hl 3 rfl) ?_
    refine k_call (cs := [w10 cA cR a0 v, [(q3, .inl (cL, 1, .inr (.inl f3)))]]) (rs := [w11 cA a1 w, [(q4, .inl (cF, 1, .inr (.inr (.inr (.inl f4)))))]]) (cs1 := [w10 cA cR a0 v, [(q3, .inl (cL, 1, .inr (.inl f3)))]]) (bs1 := [w10 cA cR a0 v, w11 cA a1 w, [(q3, .inl (cL, 1, .inr (.inl f3)))], [(q4, .inl (cF, 1, .inr (.inr (.inr (.inl f4)))))]]) (rest := []) (st1 := [.int (1 : Int32)]) hw hA [0, 2] [1, 3] [2, 0, 3, 1] rfl rfl rfl rfl rfl (k_runL (nA := 4) (As := [.ref a0.1, .int p1, .int p2, .ref q3]) (cs := [w10 cA cR a0 v, [(q3, .inl (cL, 1, .inr (.inl f3)))]]) (rs := [w11 cA a1 w, [(q4, .inl (cF, 1, .inr (.inr (.inr (.inl f4)))))]]) (rest := []) ⟨hx, hb, hml, hown, hts⟩ hz hzl hzx hw hA (t0L_setLevels l hlt D cA cR cL cF  a0 v p1 p2 q3 f3 hu) gL_law_L_setLevels rfl rfl rfl (by decide +kernel) rfl ⟨Nat.le_of_ble_eq_true rfl, Nat.le_of_ble_eq_true rfl⟩ hl.1 rfl (Nat.le_of_ble_eq_true rfl) dL_law_446 ⟨(by show _ ≤ 601024; omega), (by show _ ≤ 7293034; omega)⟩ [0, 2] [1, 3] rfl rfl rfl) rfl (fun H locs hw => ?_)
    refine lv_istore (lv' := [(6, .int (1 : Int32)), (0, .ref b), (1, .ref a0.1), (2, .ref a1.1), (3, .ref q3), (4, .ref q4), (5, .int x5)]) hx hb dL_law_449 hl (by decide) rfl (fun ls hl => ?_)
    refine lv_aload_n hx hb dL_law_451 rfl (lv_at hl 3 rfl) ?_
    refine lv_aload_n hx hb dL_law_452 rfl (lv_at hl 1 rfl) ?_
    refine lv_iload hx hb dL_law_453 (lv_at hl 6 rfl) ?_
    refine lv_iconst (v := 1) hx hb dL_law_455 (by decide) ?_
    refine lv_iadd hx hb dL_law_456 ?_
    refine va_sld hx hb hX hbl hbA hw.2.2 h1 dL_law_457 ?_
    refine lv_topi (fun y ey => ?_)
    obtain rfl : p1 = y := (ey.trans e1).symm
    refine lv_aload_n hx hb dL_law_458 rfl (lv_at hl 1 rfl) ?_
    refine lv_iload hx hb dL_law_459 (lv_at hl 6 rfl) ?_
    refine lv_iconst (v := 2) hx hb dL_law_461 (by decide) ?_
    refine lv_iadd hx hb dL_law_462 ?_
    refine va_sld hx hb hX hbl hbA hw.2.2 h2 dL_law_463 ?_
    refine lv_topi (fun y ey => ?_)
    obtain rfl : p2 = y := (ey.trans e2).symm
    refine k_callV (ci := 11) (C := RX11) (T := TX11) (N := 14) (nA := 2) (As := [.int p1, .int p2]) (cs := [w11 cA a1 w]) (rs := [w10 cA cR a0 v, [(q3, .inl (cL, 1, .inr (.inl f3)))], [(q4, .inl (cF, 1, .inr (.inr (.inr (.inl f4)))))]]) (cs1 := [w11 cA a1 z.2]) (bs1 := [w10 cA cR a0 v, w11 cA a1 z.2, [(q3, .inl (cL, 1, .inr (.inl f3)))], [(q4, .inl (cF, 1, .inr (.inr (.inr (.inl f4)))))]]) (rest := []) (st1 := [.int z.1]) ⟨hx, hb, hml, hown, hts⟩ hz hw hA (mX11_setLevels l D cA cR N a1 w p1 p2 z hz1) gL_law_X11_setLevels rfl rfl rfl (by decide +kernel) rfl ⟨Nat.le_of_ble_eq_true rfl, Nat.le_of_ble_eq_true rfl⟩ rfl rfl hl.1 rfl (Nat.le_of_ble_eq_true rfl) dL_law_464 ⟨(by show _ ≤ 601024; omega), (by show _ ≤ 7293034; omega)⟩ [1] [0, 2, 3] [0, 3, 1, 2] rfl rfl rfl rfl rfl rfl (fun H locs hw => ?_)
    refine lv_istore (lv' := [(7, .int z.1), (6, .int (1 : Int32)), (0, .ref b), (1, .ref a0.1), (2, .ref a1.1), (3, .ref q3), (4, .ref q4), (5, .int x5)]) hx hb dL_law_467 hl (by decide) rfl (fun ls hl => ?_)
    refine lv_aload_n hx hb dL_law_469 rfl (lv_at hl 4 rfl) ?_
    refine k_callV (ci := 11) (C := RX11) (T := TX11) (N := 14) (nA := 0) (As := []) (cs := [w11 cA a1 z.2]) (rs := [w10 cA cR a0 v, [(q3, .inl (cL, 1, .inr (.inl f3)))], [(q4, .inl (cF, 1, .inr (.inr (.inr (.inl f4)))))]]) (cs1 := [w11 cA a1 z.2]) (bs1 := [w10 cA cR a0 v, w11 cA a1 z.2, [(q3, .inl (cL, 1, .inr (.inl f3)))], [(q4, .inl (cF, 1, .inr (.inr (.inr (.inl f4)))))]]) (rest := []) (st1 := [.int z.2.2.2.2.1]) ⟨hx, hb, hml, hown, hts⟩ hz hw hA (mX11_thrown l D cA cR a1 z.2 (z.2.2.2.2.1) rfl) gL_law_X11_thrown rfl rfl rfl (by decide +kernel) rfl ⟨Nat.le_of_ble_eq_true rfl, Nat.le_of_ble_eq_true rfl⟩ rfl rfl hl.1 rfl (Nat.le_of_ble_eq_true rfl) dL_law_470 ⟨(by show _ ≤ 601024; omega), (by show _ ≤ 7293034; omega)⟩ [1] [0, 2, 3] [0, 3, 1, 2] rfl rfl rfl rfl rfl rfl (fun H locs hw => ?_)
    refine lv_iload hx hb dL_law_473 (lv_at hl 1 rfl) ?_
    refine lv_icmp_eq (tgt := 480) hx hb dL_law_475 (by decide) (fun _ => ?_) (fun cc => absurd hth cc)
    refine lv_iload hx hb dL_law_480 (lv_at hl 1 rfl) ?_
    refine lv_if_ne (tgt := 497) hx hb dL_law_482 (by decide) (fun _ => ?_) (fun cc => absurd cc (by decide))
    refine lv_goto (tgt := 1547) hx hb dL_law_497 (by decide) ?_
    refine W.widen (k := k0 + 1) (n := s0 + 6) (by omega) (by omega) ?_
    exact kk v z.2 f3 f4 _ _ _ hR hw (lv_sub hl [2, 3, 4, 5, 6, 7] rfl)
set_option maxHeartbeats 4000000 in
set_option maxRecDepth 100000 in
theorem lk_4 {p : Program} {l : Launch} {e : Env} {s : State} {m : MethodId} {below : List Frame} {meth : Method} {c : Code} {D : va_G} {cA cR cL cF : ClassId} {b L : Nat} {xs : Nat → Int32} {RR : Nat → V10 → V11 → Prop} {N : Nat} (hpu : PU_setMask RR N) (X : LX p l s m c b L xs D cA cR cL cF) {k0 s0 : Nat} (hk0 : k0 + 1 ≤ 601024) (hs0 : s0 + 6 ≤ 7293034) {cn : Nat} (hcn : cn < 512) {x5 : Int32} {p1 : Int32} (h1 : vp_in (x5 + 1) L) (e1 : xs (x5 + 1).toNatClampNeg = p1) {p2 : Int32} (h2 : vp_in (x5 + 2) L) (e2 : xs (x5 + 2).toNatClampNeg = p2) {p3 : Int32} (h3 : vp_in (x5 + 3) L) (e3 : xs (x5 + 3).toNatClampNeg = p3) {v : V10} {w : V11} {a0 : A10} {a1 : A11} {q3 q4 : Nat} {f3 : Nat → Int64} {f4 : Nat → UInt64} {H : Heap} {locs : List Loc} {ls : Array Slot} {Q : State → Prop} (hR : RR cn v w) (hw : ww (fun q : Nat => s.heap.size ≤ q) s.heap D [w10 cA cR a0 v, w11 cA a1 w, [(q3, .inl (cL, 1, .inr (.inl f3)))], [(q4, .inl (cF, 1, .inr (.inr (.inr (.inl f4)))))]] H locs) (hl : lv_has ls 9 [(0, .ref b), (1, .ref a0.1), (2, .ref a1.1), (3, .ref q3), (4, .ref q4), (5, .int x5)])
    (kk : ∀ (v : V10) (w : V11) (f3 : Nat → Int64) (f4 : Nat → UInt64) (H : Heap) (locs : List Loc) (ls : Array Slot), RR (cn + 1) v w → ww (fun q : Nat => s.heap.size ≤ q) s.heap D [w10 cA cR a0 v, w11 cA a1 w, [(q3, .inl (cL, 1, .inr (.inl f3)))], [(q4, .inl (cF, 1, .inr (.inr (.inr (.inl f4)))))]] H locs → lv_has ls 9 [(0, .ref b), (1, .ref a0.1), (2, .ref a1.1), (3, .ref q3), (4, .ref q4), (5, .int x5)] → W p l e room_1 s m #[Value.ref b] below meth c H locs (k0 + 1) (s0 + 6) Q (F0 m 1547 ls [])) : W p l e room_1 s m #[Value.ref b] below meth c H locs k0 s0 Q (F0 m 500 ls []) := by
  obtain ⟨hx, hb, hml, hown, hts, hX, hbl, hz, hzl, hzx, hlt⟩ := X
  have hA : ∀ q : Nat, s.heap.size ≤ q → (fun q : Nat => s.heap.size ≤ q) q := fun _ h => h
  have hbA : ¬ (fun q : Nat => s.heap.size ≤ q) b := Nat.not_le.mpr hbl
  rcases hpu cn v w p1 p2 p3 hcn hR with ⟨u, z, hu, hz1, hth, hret, hR⟩ | ⟨z, hu, hz1, hth, hR⟩ | ⟨z, hu, hz1, hth, hR⟩
  · skip
    refine lv_aload_n hx hb dL_law_500 rfl (lv_at hl 1 rfl) ?_
    refine lv_aload_n hx hb dL_law_501 rfl (lv_at hl 0 rfl) ?_
    refine lv_iload hx hb dL_law_502 (lv_at hl 5 rfl) ?_
    refine lv_iconst (v := 1) hx hb dL_law_504 (by decide) ?_
    refine lv_iadd hx hb dL_law_505 ?_
    refine va_sld hx hb hX hbl hbA hw.2.2 h1 dL_law_506 ?_
    refine lv_topi (fun y ey => ?_)
    obtain rfl : p1 = y := (ey.trans e1).symm
    refine lv_aload_n hx hb dL_law_507 rfl (lv_at hl 0 rfl) ?_
    refine lv_iload hx hb dL_law_508 (lv_at hl 5 rfl) ?_
    refine lv_iconst (v := 2) hx hb dL_law_510 (by decide) ?_
    refine lv_iadd hx hb dL_law_511 ?_
    refine va_sld hx hb hX hbl hbA hw.2.2 h2 dL_law_512 ?_
    refine lv_topi (fun y ey => ?_)
    obtain rfl : p2 = y := (ey.trans e2).symm
    refine lv_aload_n hx hb dL_law_513 rfl (lv_at hl 0 rfl) ?_
    refine lv_iload hx hb dL_law_514 (lv_at hl 5 rfl) ?_
    refine lv_iconst (v := 3) hx hb dL_law_516 (by decide) ?_
    refine lv_iadd hx hb dL_law_517 ?_
    refine va_sld hx hb hX hbl hbA hw.2.2 h3 dL_law_518 ?_
    refine lv_topi (fun y ey => ?_)
    obtain rfl : p3 = y := (ey.trans e3).symm
    refine lv_aload_n hx hb dL_law_519 rfl (lv_at hl 3 rfl) ?_
    refine k_call (cs := [w10 cA cR a0 v, [(q3, .inl (cL, 1, .inr (.inl f3)))]]) (rs := [w11 cA a1 w, [(q4, .inl (cF, 1, .inr (.inr (.inr (.inl f4)))))]]) (cs1 := [w10 cA cR a0 u.2, [(q3, .inl (cL, 1, .inr (.inl (vp_updL f3 (0 : Int32).toNatClampNeg u.1.toInt64))))]]) (bs1 := [w10 cA cR a0 u.2, w11 cA a1 w, [(q3, .inl (cL, 1, .inr (.inl (vp_updL f3 (0 : Int32).toNatClampNeg u.1.toInt64))))], [(q4, .inl (cF, 1, .inr (.inr (.inr (.inl f4)))))]]) (rest := []) (st1 := [.int (0 : Int32)]) hw hA [0, 2] [1, 3] [2, 0, 3, 1] rfl rfl rfl rfl rfl (k_runL (nA := 5) (As := [.ref a0.1, .int p1, .int p2, .int p3, .ref q3]) (cs := [w10 cA cR a0 v, [(q3, .inl (cL, 1, .inr (.inl f3)))]]) (rs := [w11 cA a1 w, [(q4, .inl (cF, 1, .inr (.inr (.inr (.inl f4)))))]]) (rest := []) ⟨hx, hb, hml, hown, hts⟩ hz hzl hzx hw hA (mL_setMask l D cA cR cL cF N a0 v p1 p2 p3 q3 f3 u hu) gL_law_L_setMask rfl rfl rfl (by decide +kernel) rfl ⟨Nat.le_of_ble_eq_true rfl, Nat.le_of_ble_eq_true rfl⟩ hl.1 rfl (Nat.le_of_ble_eq_true rfl) dL_law_520 ⟨(by show _ ≤ 601024; omega), (by show _ ≤ 7293034; omega)⟩ [0, 2] [1, 3] rfl rfl rfl) rfl (fun H locs hw => ?_)
    refine lv_istore (lv' := [(6, .int (0 : Int32)), (0, .ref b), (1, .ref a0.1), (2, .ref a1.1), (3, .ref q3), (4, .ref q4), (5, .int x5)]) hx hb dL_law_523 hl (by decide) rfl (fun ls hl => ?_)
    refine lv_aload_n hx hb dL_law_525 rfl (lv_at hl 3 rfl) ?_
    refine lv_aload_n hx hb dL_law_526 rfl (lv_at hl 1 rfl) ?_
    refine lv_iload hx hb dL_law_527 (lv_at hl 6 rfl) ?_
    refine lv_iconst (v := 1) hx hb dL_law_529 (by decide) ?_
    refine lv_iadd hx hb dL_law_530 ?_
    refine va_sld hx hb hX hbl hbA hw.2.2 h1 dL_law_531 ?_
    refine lv_topi (fun y ey => ?_)
    obtain rfl : p1 = y := (ey.trans e1).symm
    refine lv_aload_n hx hb dL_law_532 rfl (lv_at hl 1 rfl) ?_
    refine lv_iload hx hb dL_law_533 (lv_at hl 6 rfl) ?_
    refine lv_iconst (v := 2) hx hb dL_law_535 (by decide) ?_
    refine lv_iadd hx hb dL_law_536 ?_
    refine va_sld hx hb hX hbl hbA hw.2.2 h2 dL_law_537 ?_
    refine lv_topi (fun y ey => ?_)
    obtain rfl : p2 = y := (ey.trans e2).symm
    refine lv_aload_n hx hb dL_law_538 rfl (lv_at hl 1 rfl) ?_
    refine lv_iload hx hb dL_law_539 (lv_at hl 6 rfl) ?_
    refine lv_iconst (v := 3) hx hb dL_law_541 (by decide) ?_
    refine lv_iadd hx hb dL_law_542 ?_
    refine va_sld hx hb hX hbl hbA hw.2.2 h3 dL_law_543 ?_
    refine lv_topi (fun y ey => ?_)
    obtain rfl : p3 = y := (ey.trans e3).symm
    refine k_callV (ci := 11) (C := RX11) (T := TX11) (N := 14) (nA := 3) (As := [.int p1, .int p2, .int p3]) (cs := [w11 cA a1 w]) (rs := [w10 cA cR a0 u.2, [(q3, .inl (cL, 1, .inr (.inl (vp_updL f3 (0 : Int32).toNatClampNeg u.1.toInt64))))], [(q4, .inl (cF, 1, .inr (.inr (.inr (.inl f4)))))]]) (cs1 := [w11 cA a1 z.2]) (bs1 := [w10 cA cR a0 u.2, w11 cA a1 z.2, [(q3, .inl (cL, 1, .inr (.inl (vp_updL f3 (0 : Int32).toNatClampNeg u.1.toInt64))))], [(q4, .inl (cF, 1, .inr (.inr (.inr (.inl f4)))))]]) (rest := []) (st1 := [.int z.1]) ⟨hx, hb, hml, hown, hts⟩ hz hw hA (mX11_setMask l D cA cR N a1 w p1 p2 p3 z hz1) gL_law_X11_setMask rfl rfl rfl (by decide +kernel) rfl ⟨Nat.le_of_ble_eq_true rfl, Nat.le_of_ble_eq_true rfl⟩ rfl rfl hl.1 rfl (Nat.le_of_ble_eq_true rfl) dL_law_544 ⟨(by show _ ≤ 601024; omega), (by show _ ≤ 7293034; omega)⟩ [1] [0, 2, 3] [0, 3, 1, 2] rfl rfl rfl rfl rfl rfl (fun H locs hw => ?_)
    refine lv_istore (lv' := [(7, .int z.1), (6, .int (0 : Int32)), (0, .ref b), (1, .ref a0.1), (2, .ref a1.1), (3, .ref q3), (4, .ref q4), (5, .int x5)]) hx hb dL_law_547 hl (by decide) rfl (fun ls hl => ?_)
    refine lv_aload_n hx hb dL_law_549 rfl (lv_at hl 4 rfl) ?_
    refine k_callV (ci := 11) (C := RX11) (T := TX11) (N := 14) (nA := 0) (As := []) (cs := [w11 cA a1 z.2]) (rs := [w10 cA cR a0 u.2, [(q3, .inl (cL, 1, .inr (.inl (vp_updL f3 (0 : Int32).toNatClampNeg u.1.toInt64))))], [(q4, .inl (cF, 1, .inr (.inr (.inr (.inl f4)))))]]) (cs1 := [w11 cA a1 z.2]) (bs1 := [w10 cA cR a0 u.2, w11 cA a1 z.2, [(q3, .inl (cL, 1, .inr (.inl (vp_updL f3 (0 : Int32).toNatClampNeg u.1.toInt64))))], [(q4, .inl (cF, 1, .inr (.inr (.inr (.inl f4)))))]]) (rest := []) (st1 := [.int z.2.2.2.2.1]) ⟨hx, hb, hml, hown, hts⟩ hz hw hA (mX11_thrown l D cA cR a1 z.2 (z.2.2.2.2.1) rfl) gL_law_X11_thrown rfl rfl rfl (by decide +kernel) rfl ⟨Nat.le_of_ble_eq_true rfl, Nat.le_of_ble_eq_true rfl⟩ rfl rfl hl.1 rfl (Nat.le_of_ble_eq_true rfl) dL_law_550 ⟨(by show _ ≤ 601024; omega), (by show _ ≤ 7293034; omega)⟩ [1] [0, 2, 3] [0, 3, 1, 2] rfl rfl rfl rfl rfl rfl (fun H locs hw => ?_)
    refine lv_iload hx hb dL_law_553 (lv_at hl 1 rfl) ?_
    refine lv_icmp_eq (tgt := 560) hx hb dL_law_555 (by decide) (fun _ => ?_) (fun cc => absurd hth cc)
    refine lv_iload hx hb dL_law_560 (lv_at hl 1 rfl) ?_
    refine lv_if_ne (tgt := 577) hx hb dL_law_562 (by decide) (fun cc => absurd rfl cc) (fun _ => ?_)
    refine lv_aload_n hx hb dL_law_565 rfl (lv_at hl 5 rfl) ?_
    refine lv_iconst (v := 0) hx hb dL_law_566 (by decide) ?_
    refine k_lald hx hb hzl hw 2 rfl (by unfold vp_in; decide) dL_law_567 ?_
    refine lv_iload hx hb dL_law_568 (lv_at hl 0 rfl) ?_
    refine lv_i2l hx hb dL_law_570 rfl ?_
    refine W.lcmp hx hb dL_law_571 ?_
    refine lv_if_eq (tgt := 577) hx hb dL_law_572 (by decide) (fun _ => ?_) (fun cc => absurd (lcmp_same (by rw [← hret]; exact pk_uLs)) cc)
    refine lv_goto (tgt := 1547) hx hb dL_law_577 (by decide) ?_
    refine W.widen (k := k0 + 1) (n := s0 + 6) (by omega) (by omega) ?_
    exact kk u.2 z.2 (vp_updL f3 (0 : Int32).toNatClampNeg u.1.toInt64) f4 _ _ _ hR hw (lv_sub hl [2, 3, 4, 5, 6, 7] rfl)
  · skip
    refine lv_aload_n hx hb dL_law_500 rfl (lv_at hl 1 rfl) ?_
    refine lv_aload_n hx hb dL_law_501 rfl (lv_at hl 0 rfl) ?_
    refine lv_iload hx hb dL_law_502 (lv_at hl 5 rfl) ?_
    refine lv_iconst (v := 1) hx hb dL_law_504 (by decide) ?_
    refine lv_iadd hx hb dL_law_505 ?_
    refine va_sld hx hb hX hbl hbA hw.2.2 h1 dL_law_506 ?_
    refine lv_topi (fun y ey => ?_)
    obtain rfl : p1 = y := (ey.trans e1).symm
    refine lv_aload_n hx hb dL_law_507 rfl (lv_at hl 0 rfl) ?_
    refine lv_iload hx hb dL_law_508 (lv_at hl 5 rfl) ?_
    refine lv_iconst (v := 2) hx hb dL_law_510 (by decide) ?_
    refine lv_iadd hx hb dL_law_511 ?_
    refine va_sld hx hb hX hbl hbA hw.2.2 h2 dL_law_512 ?_
    refine lv_topi (fun y ey => ?_)
    obtain rfl : p2 = y := (ey.trans e2).symm
    refine lv_aload_n hx hb dL_law_513 rfl (lv_at hl 0 rfl) ?_
    refine lv_iload hx hb dL_law_514 (lv_at hl 5 rfl) ?_
    refine lv_iconst (v := 3) hx hb dL_law_516 (by decide) ?_
    refine lv_iadd hx hb dL_law_517 ?_
    refine va_sld hx hb hX hbl hbA hw.2.2 h3 dL_law_518 ?_
    refine lv_topi (fun y ey => ?_)
    obtain rfl : p3 = y := (ey.trans e3).symm
    refine lv_aload_n hx hb dL_law_519 rfl (lv_at hl 3 rfl) ?_
    refine k_call (cs := [w10 cA cR a0 v, [(q3, .inl (cL, 1, .inr (.inl f3)))]]) (rs := [w11 cA a1 w, [(q4, .inl (cF, 1, .inr (.inr (.inr (.inl f4)))))]]) (cs1 := [w10 cA cR a0 v, [(q3, .inl (cL, 1, .inr (.inl f3)))]]) (bs1 := [w10 cA cR a0 v, w11 cA a1 w, [(q3, .inl (cL, 1, .inr (.inl f3)))], [(q4, .inl (cF, 1, .inr (.inr (.inr (.inl f4)))))]]) (rest := []) (st1 := [.int (1 : Int32)]) hw hA [0, 2] [1, 3] [2, 0, 3, 1] rfl rfl rfl rfl rfl (k_runL (nA := 5) (As := [.ref a0.1, .int p1, .int p2, .int p3, .ref q3]) (cs := [w10 cA cR a0 v, [(q3, .inl (cL, 1, .inr (.inl f3)))]]) (rs := [w11 cA a1 w, [(q4, .inl (cF, 1, .inr (.inr (.inr (.inl f4)))))]]) (rest := []) ⟨hx, hb, hml, hown, hts⟩ hz hzl hzx hw hA (t0L_setMask l hlt D cA cR cL cF N a0 v p1 p2 p3 q3 f3 hu) gL_law_L_setMask rfl rfl rfl (by decide +kernel) rfl ⟨Nat.le_of_ble_eq_true rfl, Nat.le_of_ble_eq_true rfl⟩ hl.1 rfl (Nat.le_of_ble_eq_true rfl) dL_law_520 ⟨(by show _ ≤ 601024; omega), (by show _ ≤ 7293034; omega)⟩ [0, 2] [1, 3] rfl rfl rfl) rfl (fun H locs hw => ?_)
    refine lv_istore (lv' := [(6, .int (1 : Int32)), (0, .ref b), (1, .ref a0.1), (2, .ref a1.1), (3, .ref q3), (4, .ref q4), (5, .int x5)]) hx hb dL_law_523 hl (by decide) rfl (fun ls hl => ?_)
    refine lv_aload_n hx hb dL_law_525 rfl (lv_at hl 3 rfl) ?_
    refine lv_aload_n hx hb dL_law_526 rfl (lv_at hl 1 rfl) ?_
    refine lv_iload hx hb dL_law_527 (lv_at hl 6 rfl) ?_
    refine lv_iconst (v := 1) hx hb dL_law_529 (by decide) ?_
    refine lv_iadd hx hb dL_law_530 ?_
    refine va_sld hx hb hX hbl hbA hw.2.2 h1 dL_law_531 ?_
    refine lv_topi (fun y ey => ?_)
    obtain rfl : p1 = y := (ey.trans e1).symm
    refine lv_aload_n hx hb dL_law_532 rfl (lv_at hl 1 rfl) ?_
    refine lv_iload hx hb dL_law_533 (lv_at hl 6 rfl) ?_
    refine lv_iconst (v := 2) hx hb dL_law_535 (by decide) ?_
    refine lv_iadd hx hb dL_law_536 ?_
    refine va_sld hx hb hX hbl hbA hw.2.2 h2 dL_law_537 ?_
    refine lv_topi (fun y ey => ?_)
    obtain rfl : p2 = y := (ey.trans e2).symm
    refine lv_aload_n hx hb dL_law_538 rfl (lv_at hl 1 rfl) ?_
    refine lv_iload hx hb dL_law_539 (lv_at hl 6 rfl) ?_
    refine lv_iconst (v := 3) hx hb dL_law_541 (by decide) ?_
    refine lv_iadd hx hb dL_law_542 ?_
    refine va_sld hx hb hX hbl hbA hw.2.2 h3 dL_law_543 ?_
    refine lv_topi (fun y ey => ?_)
    obtain rfl : p3 = y := (ey.trans e3).symm
    refine k_callV (ci := 11) (C := RX11) (T := TX11) (N := 14) (nA := 3) (As := [.int p1, .int p2, .int p3]) (cs := [w11 cA a1 w]) (rs := [w10 cA cR a0 v, [(q3, .inl (cL, 1, .inr (.inl f3)))], [(q4, .inl (cF, 1, .inr (.inr (.inr (.inl f4)))))]]) (cs1 := [w11 cA a1 z.2]) (bs1 := [w10 cA cR a0 v, w11 cA a1 z.2, [(q3, .inl (cL, 1, .inr (.inl f3)))], [(q4, .inl (cF, 1, .inr (.inr (.inr (.inl f4)))))]]) (rest := []) (st1 := [.int z.1]) ⟨hx, hb, hml, hown, hts⟩ hz hw hA (mX11_setMask l D cA cR N a1 w p1 p2 p3 z hz1) gL_law_X11_setMask rfl rfl rfl (by decide +kernel) rfl ⟨Nat.le_of_ble_eq_true rfl, Nat.le_of_ble_eq_true rfl⟩ rfl rfl hl.1 rfl (Nat.le_of_ble_eq_true rfl) dL_law_544 ⟨(by show _ ≤ 601024; omega), (by show _ ≤ 7293034; omega)⟩ [1] [0, 2, 3] [0, 3, 1, 2] rfl rfl rfl rfl rfl rfl (fun H locs hw => ?_)
    refine lv_istore (lv' := [(7, .int z.1), (6, .int (1 : Int32)), (0, .ref b), (1, .ref a0.1), (2, .ref a1.1), (3, .ref q3), (4, .ref q4), (5, .int x5)]) hx hb dL_law_547 hl (by decide) rfl (fun ls hl => ?_)
    refine lv_aload_n hx hb dL_law_549 rfl (lv_at hl 4 rfl) ?_
    refine k_callV (ci := 11) (C := RX11) (T := TX11) (N := 14) (nA := 0) (As := []) (cs := [w11 cA a1 z.2]) (rs := [w10 cA cR a0 v, [(q3, .inl (cL, 1, .inr (.inl f3)))], [(q4, .inl (cF, 1, .inr (.inr (.inr (.inl f4)))))]]) (cs1 := [w11 cA a1 z.2]) (bs1 := [w10 cA cR a0 v, w11 cA a1 z.2, [(q3, .inl (cL, 1, .inr (.inl f3)))], [(q4, .inl (cF, 1, .inr (.inr (.inr (.inl f4)))))]]) (rest := []) (st1 := [.int z.2.2.2.2.1]) ⟨hx, hb, hml, hown, hts⟩ hz hw hA (mX11_thrown l D cA cR a1 z.2 (z.2.2.2.2.1) rfl) gL_law_X11_thrown rfl rfl rfl (by decide +kernel) rfl ⟨Nat.le_of_ble_eq_true rfl, Nat.le_of_ble_eq_true rfl⟩ rfl rfl hl.1 rfl (Nat.le_of_ble_eq_true rfl) dL_law_550 ⟨(by show _ ≤ 601024; omega), (by show _ ≤ 7293034; omega)⟩ [1] [0, 2, 3] [0, 3, 1, 2] rfl rfl rfl rfl rfl rfl (fun H locs hw => ?_)
    refine lv_iload hx hb dL_law_553 (lv_at hl 1 rfl) ?_
    refine lv_icmp_eq (tgt := 560) hx hb dL_law_555 (by decide) (fun _ => ?_) (fun cc => absurd hth cc)
    refine lv_iload hx hb dL_law_560 (lv_at hl 1 rfl) ?_
    refine lv_if_ne (tgt := 577) hx hb dL_law_562 (by decide) (fun _ => ?_) (fun cc => absurd cc (by decide))
    refine lv_goto (tgt := 1547) hx hb dL_law_577 (by decide) ?_
    refine W.widen (k := k0 + 1) (n := s0 + 6) (by omega) (by omega) ?_
    exact kk v z.2 f3 f4 _ _ _ hR hw (lv_sub hl [2, 3, 4, 5, 6, 7] rfl)
  · skip
    refine lv_aload_n hx hb dL_law_500 rfl (lv_at hl 1 rfl) ?_
    refine lv_aload_n hx hb dL_law_501 rfl (lv_at hl 0 rfl) ?_
    refine lv_iload hx hb dL_law_502 (lv_at hl 5 rfl) ?_
    refine lv_iconst (v := 1) hx hb dL_law_504 (by decide) ?_
    refine lv_iadd hx hb dL_law_505 ?_
    refine va_sld hx hb hX hbl hbA hw.2.2 h1 dL_law_506 ?_
    refine lv_topi (fun y ey => ?_)
    obtain rfl : p1 = y := (ey.trans e1).symm
    refine lv_aload_n hx hb dL_law_507 rfl (lv_at hl 0 rfl) ?_
    refine lv_iload hx hb dL_law_508 (lv_at hl 5 rfl) ?_
    refine lv_iconst (v := 2) hx hb dL_law_510 (by decide) ?_
    refine lv_iadd hx hb dL_law_511 ?_
    refine va_sld hx hb hX hbl hbA hw.2.2 h2 dL_law_512 ?_
    refine lv_topi (fun y ey => ?_)
    obtain rfl : p2 = y := (ey.trans e2).symm
    refine lv_aload_n hx hb dL_law_513 rfl (lv_at hl 0 rfl) ?_
    refine lv_iload hx hb dL_law_514 (lv_at hl 5 rfl) ?_
    refine lv_iconst (v := 3) hx hb dL_law_516 (by decide) ?_
    refine lv_iadd hx hb dL_law_517 ?_
    refine va_sld hx hb hX hbl hbA hw.2.2 h3 dL_law_518 ?_
    refine lv_topi (fun y ey => ?_)
    obtain rfl : p3 = y := (ey.trans e3).symm
    refine lv_aload_n hx hb dL_law_519 rfl (lv_at hl 3 rfl) ?_
    refine k_call (cs := [w10 cA cR a0 v, [(q3, .inl (cL, 1, .inr (.inl f3)))]]) (rs := [w11 cA a1 w, [(q4, .inl (cF, 1, .inr (.inr (.inr (.inl f4)))))]]) (cs1 := [w10 cA cR a0 v, [(q3, .inl (cL, 1, .inr (.inl f3)))]]) (bs1 := [w10 cA cR a0 v, w11 cA a1 w, [(q3, .inl (cL, 1, .inr (.inl f3)))], [(q4, .inl (cF, 1, .inr (.inr (.inr (.inl f4)))))]]) (rest := []) (st1 := [.int (2 : Int32)]) hw hA [0, 2] [1, 3] [2, 0, 3, 1] rfl rfl rfl rfl rfl (k_runL (nA := 5) (As := [.ref a0.1, .int p1, .int p2, .int p3, .ref q3]) (cs := [w10 cA cR a0 v, [(q3, .inl (cL, 1, .inr (.inl f3)))]]) (rs := [w11 cA a1 w, [(q4, .inl (cF, 1, .inr (.inr (.inr (.inl f4)))))]]) (rest := []) ⟨hx, hb, hml, hown, hts⟩ hz hzl hzx hw hA (t1L_setMask l hlt D cA cR cL cF N a0 v p1 p2 p3 q3 f3 hu) gL_law_L_setMask rfl rfl rfl (by decide +kernel) rfl ⟨Nat.le_of_ble_eq_true rfl, Nat.le_of_ble_eq_true rfl⟩ hl.1 rfl (Nat.le_of_ble_eq_true rfl) dL_law_520 ⟨(by show _ ≤ 601024; omega), (by show _ ≤ 7293034; omega)⟩ [0, 2] [1, 3] rfl rfl rfl) rfl (fun H locs hw => ?_)
    refine lv_istore (lv' := [(6, .int (2 : Int32)), (0, .ref b), (1, .ref a0.1), (2, .ref a1.1), (3, .ref q3), (4, .ref q4), (5, .int x5)]) hx hb dL_law_523 hl (by decide) rfl (fun ls hl => ?_)
    refine lv_aload_n hx hb dL_law_525 rfl (lv_at hl 3 rfl) ?_
    refine lv_aload_n hx hb dL_law_526 rfl (lv_at hl 1 rfl) ?_
    refine lv_iload hx hb dL_law_527 (lv_at hl 6 rfl) ?_
    refine lv_iconst (v := 1) hx hb dL_law_529 (by decide) ?_
    refine lv_iadd hx hb dL_law_530 ?_
    refine va_sld hx hb hX hbl hbA hw.2.2 h1 dL_law_531 ?_
    refine lv_topi (fun y ey => ?_)
    obtain rfl : p1 = y := (ey.trans e1).symm
    refine lv_aload_n hx hb dL_law_532 rfl (lv_at hl 1 rfl) ?_
    refine lv_iload hx hb dL_law_533 (lv_at hl 6 rfl) ?_
    refine lv_iconst (v := 2) hx hb dL_law_535 (by decide) ?_
    refine lv_iadd hx hb dL_law_536 ?_
    refine va_sld hx hb hX hbl hbA hw.2.2 h2 dL_law_537 ?_
    refine lv_topi (fun y ey => ?_)
    obtain rfl : p2 = y := (ey.trans e2).symm
    refine lv_aload_n hx hb dL_law_538 rfl (lv_at hl 1 rfl) ?_
    refine lv_iload hx hb dL_law_539 (lv_at hl 6 rfl) ?_
    refine lv_iconst (v := 3) hx hb dL_law_541 (by decide) ?_
    refine lv_iadd hx hb dL_law_542 ?_
    refine va_sld hx hb hX hbl hbA hw.2.2 h3 dL_law_543 ?_
    refine lv_topi (fun y ey => ?_)
    obtain rfl : p3 = y := (ey.trans e3).symm
    refine k_callV (ci := 11) (C := RX11) (T := TX11) (N := 14) (nA := 3) (As := [.int p1, .int p2, .int p3]) (cs := [w11 cA a1 w]) (rs := [w10 cA cR a0 v, [(q3, .inl (cL, 1, .inr (.inl f3)))], [(q4, .inl (cF, 1, .inr (.inr (.inr (.inl f4)))))]]) (cs1 := [w11 cA a1 z.2]) (bs1 := [w10 cA cR a0 v, w11 cA a1 z.2, [(q3, .inl (cL, 1, .inr (.inl f3)))], [(q4, .inl (cF, 1, .inr (.inr (.inr (.inl f4)))))]]) (rest := []) (st1 := [.int z.1]) ⟨hx, hb, hml, hown, hts⟩ hz hw hA (mX11_setMask l D cA cR N a1 w p1 p2 p3 z hz1) gL_law_X11_setMask rfl rfl rfl (by decide +kernel) rfl ⟨Nat.le_of_ble_eq_true rfl, Nat.le_of_ble_eq_true rfl⟩ rfl rfl hl.1 rfl (Nat.le_of_ble_eq_true rfl) dL_law_544 ⟨(by show _ ≤ 601024; omega), (by show _ ≤ 7293034; omega)⟩ [1] [0, 2, 3] [0, 3, 1, 2] rfl rfl rfl rfl rfl rfl (fun H locs hw => ?_)
    refine lv_istore (lv' := [(7, .int z.1), (6, .int (2 : Int32)), (0, .ref b), (1, .ref a0.1), (2, .ref a1.1), (3, .ref q3), (4, .ref q4), (5, .int x5)]) hx hb dL_law_547 hl (by decide) rfl (fun ls hl => ?_)
    refine lv_aload_n hx hb dL_law_549 rfl (lv_at hl 4 rfl) ?_
    refine k_callV (ci := 11) (C := RX11) (T := TX11) (N := 14) (nA := 0) (As := []) (cs := [w11 cA a1 z.2]) (rs := [w10 cA cR a0 v, [(q3, .inl (cL, 1, .inr (.inl f3)))], [(q4, .inl (cF, 1, .inr (.inr (.inr (.inl f4)))))]]) (cs1 := [w11 cA a1 z.2]) (bs1 := [w10 cA cR a0 v, w11 cA a1 z.2, [(q3, .inl (cL, 1, .inr (.inl f3)))], [(q4, .inl (cF, 1, .inr (.inr (.inr (.inl f4)))))]]) (rest := []) (st1 := [.int z.2.2.2.2.1]) ⟨hx, hb, hml, hown, hts⟩ hz hw hA (mX11_thrown l D cA cR a1 z.2 (z.2.2.2.2.1) rfl) gL_law_X11_thrown rfl rfl rfl (by decide +kernel) rfl ⟨Nat.le_of_ble_eq_true rfl, Nat.le_of_ble_eq_true rfl⟩ rfl rfl hl.1 rfl (Nat.le_of_ble_eq_true rfl) dL_law_550 ⟨(by show _ ≤ 601024; omega), (by show _ ≤ 7293034; omega)⟩ [1] [0, 2, 3] [0, 3, 1, 2] rfl rfl rfl rfl rfl rfl (fun H locs hw => ?_)
    refine lv_iload hx hb dL_law_553 (lv_at hl 1 rfl) ?_
    refine lv_icmp_eq (tgt := 560) hx hb dL_law_555 (by decide) (fun _ => ?_) (fun cc => absurd hth cc)
    refine lv_iload hx hb dL_law_560 (lv_at hl 1 rfl) ?_
    refine lv_if_ne (tgt := 577) hx hb dL_law_562 (by decide) (fun _ => ?_) (fun cc => absurd cc (by decide))
    refine lv_goto (tgt := 1547) hx hb dL_law_577 (by decide) ?_
    refine W.widen (k := k0 + 1) (n := s0 + 6) (by omega) (by omega) ?_
    exact kk v z.2 f3 f4 _ _ _ hR hw (lv_sub hl [2, 3, 4, 5, 6, 7] rfl)
set_option maxHeartbeats 4000000 in
set_option maxRecDepth 100000 in
theorem lk_5 {p : Program} {l : Launch} {e : Env} {s : State} {m : MethodId} {below : List Frame} {meth : Method} {c : Code} {D : va_G} {cA cR cL cF : ClassId} {b L : Nat} {xs : Nat → Int32} {RR : Nat → V10 → V11 → Prop} {N : Nat} (hpu : PU_setHops RR N) (X : LX p l s m c b L xs D cA cR cL cF) {k0 s0 : Nat} (hk0 : k0 + 1 ≤ 601024) (hs0 : s0 + 6 ≤ 7293034) {cn : Nat} (hcn : cn < 512) {x5 : Int32} {p1 : Int32} (h1 : vp_in (x5 + 1) L) (e1 : xs (x5 + 1).toNatClampNeg = p1) {p2 : Int32} (h2 : vp_in (x5 + 2) L) (e2 : xs (x5 + 2).toNatClampNeg = p2) {v : V10} {w : V11} {a0 : A10} {a1 : A11} {q3 q4 : Nat} {f3 : Nat → Int64} {f4 : Nat → UInt64} {H : Heap} {locs : List Loc} {ls : Array Slot} {Q : State → Prop} (hR : RR cn v w) (hw : ww (fun q : Nat => s.heap.size ≤ q) s.heap D [w10 cA cR a0 v, w11 cA a1 w, [(q3, .inl (cL, 1, .inr (.inl f3)))], [(q4, .inl (cF, 1, .inr (.inr (.inr (.inl f4)))))]] H locs) (hl : lv_has ls 9 [(0, .ref b), (1, .ref a0.1), (2, .ref a1.1), (3, .ref q3), (4, .ref q4), (5, .int x5)])
    (kk : ∀ (v : V10) (w : V11) (f3 : Nat → Int64) (f4 : Nat → UInt64) (H : Heap) (locs : List Loc) (ls : Array Slot), RR (cn + 1) v w → ww (fun q : Nat => s.heap.size ≤ q) s.heap D [w10 cA cR a0 v, w11 cA a1 w, [(q3, .inl (cL, 1, .inr (.inl f3)))], [(q4, .inl (cF, 1, .inr (.inr (.inr (.inl f4)))))]] H locs → lv_has ls 9 [(0, .ref b), (1, .ref a0.1), (2, .ref a1.1), (3, .ref q3), (4, .ref q4), (5, .int x5)] → W p l e room_1 s m #[Value.ref b] below meth c H locs (k0 + 1) (s0 + 6) Q (F0 m 1547 ls [])) : W p l e room_1 s m #[Value.ref b] below meth c H locs k0 s0 Q (F0 m 580 ls []) := by
  obtain ⟨hx, hb, hml, hown, hts, hX, hbl, hz, hzl, hzx, hlt⟩ := X
  have hA : ∀ q : Nat, s.heap.size ≤ q → (fun q : Nat => s.heap.size ≤ q) q := fun _ h => h
  have hbA : ¬ (fun q : Nat => s.heap.size ≤ q) b := Nat.not_le.mpr hbl
  rcases hpu cn v w p1 p2 hcn hR with ⟨u, z, hu, hz1, hth, hret, hR⟩ | ⟨z, hu, hz1, hth, hR⟩
  · skip
    refine lv_aload_n hx hb dL_law_580 rfl (lv_at hl 1 rfl) ?_
    refine lv_aload_n hx hb dL_law_581 rfl (lv_at hl 0 rfl) ?_
    refine lv_iload hx hb dL_law_582 (lv_at hl 5 rfl) ?_
    refine lv_iconst (v := 1) hx hb dL_law_584 (by decide) ?_
    refine lv_iadd hx hb dL_law_585 ?_
    refine va_sld hx hb hX hbl hbA hw.2.2 h1 dL_law_586 ?_
    refine lv_topi (fun y ey => ?_)
    obtain rfl : p1 = y := (ey.trans e1).symm
    refine lv_aload_n hx hb dL_law_587 rfl (lv_at hl 0 rfl) ?_
    refine lv_iload hx hb dL_law_588 (lv_at hl 5 rfl) ?_
    refine lv_iconst (v := 2) hx hb dL_law_590 (by decide) ?_
    refine lv_iadd hx hb dL_law_591 ?_
    refine va_sld hx hb hX hbl hbA hw.2.2 h2 dL_law_592 ?_
    refine lv_topi (fun y ey => ?_)
    obtain rfl : p2 = y := (ey.trans e2).symm
    refine lv_aload_n hx hb dL_law_593 rfl (lv_at hl 3 rfl) ?_
    refine k_call (cs := [w10 cA cR a0 v, [(q3, .inl (cL, 1, .inr (.inl f3)))]]) (rs := [w11 cA a1 w, [(q4, .inl (cF, 1, .inr (.inr (.inr (.inl f4)))))]]) (cs1 := [w10 cA cR a0 u.2, [(q3, .inl (cL, 1, .inr (.inl (vp_updL f3 (0 : Int32).toNatClampNeg u.1.toInt64))))]]) (bs1 := [w10 cA cR a0 u.2, w11 cA a1 w, [(q3, .inl (cL, 1, .inr (.inl (vp_updL f3 (0 : Int32).toNatClampNeg u.1.toInt64))))], [(q4, .inl (cF, 1, .inr (.inr (.inr (.inl f4)))))]]) (rest := []) (st1 := [.int (0 : Int32)]) hw hA [0, 2] [1, 3] [2, 0, 3, 1] rfl rfl rfl rfl rfl (k_runL (nA := 4) (As := [.ref a0.1, .int p1, .int p2, .ref q3]) (cs := [w10 cA cR a0 v, [(q3, .inl (cL, 1, .inr (.inl f3)))]]) (rs := [w11 cA a1 w, [(q4, .inl (cF, 1, .inr (.inr (.inr (.inl f4)))))]]) (rest := []) ⟨hx, hb, hml, hown, hts⟩ hz hzl hzx hw hA (mL_setHops l D cA cR cL cF  a0 v p1 p2 q3 f3 u hu) gL_law_L_setHops rfl rfl rfl (by decide +kernel) rfl ⟨Nat.le_of_ble_eq_true rfl, Nat.le_of_ble_eq_true rfl⟩ hl.1 rfl (Nat.le_of_ble_eq_true rfl) dL_law_594 ⟨(by show _ ≤ 601024; omega), (by show _ ≤ 7293034; omega)⟩ [0, 2] [1, 3] rfl rfl rfl) rfl (fun H locs hw => ?_)
    refine lv_istore (lv' := [(6, .int (0 : Int32)), (0, .ref b), (1, .ref a0.1), (2, .ref a1.1), (3, .ref q3), (4, .ref q4), (5, .int x5)]) hx hb dL_law_597 hl (by decide) rfl (fun ls hl => ?_)
    refine lv_aload_n hx hb dL_law_599 rfl (lv_at hl 3 rfl) ?_
    refine lv_aload_n hx hb dL_law_600 rfl (lv_at hl 1 rfl) ?_
    refine lv_iload hx hb dL_law_601 (lv_at hl 6 rfl) ?_
    refine lv_iconst (v := 1) hx hb dL_law_603 (by decide) ?_
    refine lv_iadd hx hb dL_law_604 ?_
    refine va_sld hx hb hX hbl hbA hw.2.2 h1 dL_law_605 ?_
    refine lv_topi (fun y ey => ?_)
    obtain rfl : p1 = y := (ey.trans e1).symm
    refine lv_aload_n hx hb dL_law_606 rfl (lv_at hl 1 rfl) ?_
    refine lv_iload hx hb dL_law_607 (lv_at hl 6 rfl) ?_
    refine lv_iconst (v := 2) hx hb dL_law_609 (by decide) ?_
    refine lv_iadd hx hb dL_law_610 ?_
    refine va_sld hx hb hX hbl hbA hw.2.2 h2 dL_law_611 ?_
    refine lv_topi (fun y ey => ?_)
    obtain rfl : p2 = y := (ey.trans e2).symm
    refine k_callV (ci := 11) (C := RX11) (T := TX11) (N := 14) (nA := 2) (As := [.int p1, .int p2]) (cs := [w11 cA a1 w]) (rs := [w10 cA cR a0 u.2, [(q3, .inl (cL, 1, .inr (.inl (vp_updL f3 (0 : Int32).toNatClampNeg u.1.toInt64))))], [(q4, .inl (cF, 1, .inr (.inr (.inr (.inl f4)))))]]) (cs1 := [w11 cA a1 z.2]) (bs1 := [w10 cA cR a0 u.2, w11 cA a1 z.2, [(q3, .inl (cL, 1, .inr (.inl (vp_updL f3 (0 : Int32).toNatClampNeg u.1.toInt64))))], [(q4, .inl (cF, 1, .inr (.inr (.inr (.inl f4)))))]]) (rest := []) (st1 := [.int z.1]) ⟨hx, hb, hml, hown, hts⟩ hz hw hA (mX11_setHops l D cA cR N a1 w p1 p2 z hz1) gL_law_X11_setHops rfl rfl rfl (by decide +kernel) rfl ⟨Nat.le_of_ble_eq_true rfl, Nat.le_of_ble_eq_true rfl⟩ rfl rfl hl.1 rfl (Nat.le_of_ble_eq_true rfl) dL_law_612 ⟨(by show _ ≤ 601024; omega), (by show _ ≤ 7293034; omega)⟩ [1] [0, 2, 3] [0, 3, 1, 2] rfl rfl rfl rfl rfl rfl (fun H locs hw => ?_)
    refine lv_istore (lv' := [(7, .int z.1), (6, .int (0 : Int32)), (0, .ref b), (1, .ref a0.1), (2, .ref a1.1), (3, .ref q3), (4, .ref q4), (5, .int x5)]) hx hb dL_law_615 hl (by decide) rfl (fun ls hl => ?_)
    refine lv_aload_n hx hb dL_law_617 rfl (lv_at hl 4 rfl) ?_
    refine k_callV (ci := 11) (C := RX11) (T := TX11) (N := 14) (nA := 0) (As := []) (cs := [w11 cA a1 z.2]) (rs := [w10 cA cR a0 u.2, [(q3, .inl (cL, 1, .inr (.inl (vp_updL f3 (0 : Int32).toNatClampNeg u.1.toInt64))))], [(q4, .inl (cF, 1, .inr (.inr (.inr (.inl f4)))))]]) (cs1 := [w11 cA a1 z.2]) (bs1 := [w10 cA cR a0 u.2, w11 cA a1 z.2, [(q3, .inl (cL, 1, .inr (.inl (vp_updL f3 (0 : Int32).toNatClampNeg u.1.toInt64))))], [(q4, .inl (cF, 1, .inr (.inr (.inr (.inl f4)))))]]) (rest := []) (st1 := [.int z.2.2.2.2.1]) ⟨hx, hb, hml, hown, hts⟩ hz hw hA (mX11_thrown l D cA cR a1 z.2 (z.2.2.2.2.1) rfl) gL_law_X11_thrown rfl rfl rfl (by decide +kernel) rfl ⟨Nat.le_of_ble_eq_true rfl, Nat.le_of_ble_eq_true rfl⟩ rfl rfl hl.1 rfl (Nat.le_of_ble_eq_true rfl) dL_law_618 ⟨(by show _ ≤ 601024; omega), (by show _ ≤ 7293034; omega)⟩ [1] [0, 2, 3] [0, 3, 1, 2] rfl rfl rfl rfl rfl rfl (fun H locs hw => ?_)
    refine lv_iload hx hb dL_law_621 (lv_at hl 1 rfl) ?_
    refine lv_icmp_eq (tgt := 628) hx hb dL_law_623 (by decide) (fun _ => ?_) (fun cc => absurd hth cc)
    refine lv_iload hx hb dL_law_628 (lv_at hl 1 rfl) ?_
    refine lv_if_ne (tgt := 645) hx hb dL_law_630 (by decide) (fun cc => absurd rfl cc) (fun _ => ?_)
    refine lv_aload_n hx hb dL_law_633 rfl (lv_at hl 5 rfl) ?_
    refine lv_iconst (v := 0) hx hb dL_law_634 (by decide) ?_
    refine k_lald hx hb hzl hw 2 rfl (by unfold vp_in; decide) dL_law_635 ?_
    refine lv_iload hx hb dL_law_636 (lv_at hl 0 rfl) ?_
    refine lv_i2l hx hb dL_law_638 rfl ?_
    refine W.lcmp hx hb dL_law_639 ?_
    refine lv_if_eq (tgt := 645) hx hb dL_law_640 (by decide) (fun _ => ?_) (fun cc => absurd (lcmp_same (by rw [← hret]; exact pk_uLs)) cc)
    refine lv_goto (tgt := 1547) hx hb dL_law_645 (by decide) ?_
    refine W.widen (k := k0 + 1) (n := s0 + 6) (by omega) (by omega) ?_
    exact kk u.2 z.2 (vp_updL f3 (0 : Int32).toNatClampNeg u.1.toInt64) f4 _ _ _ hR hw (lv_sub hl [2, 3, 4, 5, 6, 7] rfl)
  · skip
    refine lv_aload_n hx hb dL_law_580 rfl (lv_at hl 1 rfl) ?_
    refine lv_aload_n hx hb dL_law_581 rfl (lv_at hl 0 rfl) ?_
    refine lv_iload hx hb dL_law_582 (lv_at hl 5 rfl) ?_
    refine lv_iconst (v := 1) hx hb dL_law_584 (by decide) ?_
    refine lv_iadd hx hb dL_law_585 ?_
    refine va_sld hx hb hX hbl hbA hw.2.2 h1 dL_law_586 ?_
    refine lv_topi (fun y ey => ?_)
    obtain rfl : p1 = y := (ey.trans e1).symm
    refine lv_aload_n hx hb dL_law_587 rfl (lv_at hl 0 rfl) ?_
    refine lv_iload hx hb dL_law_588 (lv_at hl 5 rfl) ?_
    refine lv_iconst (v := 2) hx hb dL_law_590 (by decide) ?_
    refine lv_iadd hx hb dL_law_591 ?_
    refine va_sld hx hb hX hbl hbA hw.2.2 h2 dL_law_592 ?_
    refine lv_topi (fun y ey => ?_)
    obtain rfl : p2 = y := (ey.trans e2).symm
    refine lv_aload_n hx hb dL_law_593 rfl (lv_at hl 3 rfl) ?_
    refine k_call (cs := [w10 cA cR a0 v, [(q3, .inl (cL, 1, .inr (.inl f3)))]]) (rs := [w11 cA a1 w, [(q4, .inl (cF, 1, .inr (.inr (.inr (.inl f4)))))]]) (cs1 := [w10 cA cR a0 v, [(q3, .inl (cL, 1, .inr (.inl f3)))]]) (bs1 := [w10 cA cR a0 v, w11 cA a1 w, [(q3, .inl (cL, 1, .inr (.inl f3)))], [(q4, .inl (cF, 1, .inr (.inr (.inr (.inl f4)))))]]) (rest := []) (st1 := [.int (1 : Int32)]) hw hA [0, 2] [1, 3] [2, 0, 3, 1] rfl rfl rfl rfl rfl (k_runL (nA := 4) (As := [.ref a0.1, .int p1, .int p2, .ref q3]) (cs := [w10 cA cR a0 v, [(q3, .inl (cL, 1, .inr (.inl f3)))]]) (rs := [w11 cA a1 w, [(q4, .inl (cF, 1, .inr (.inr (.inr (.inl f4)))))]]) (rest := []) ⟨hx, hb, hml, hown, hts⟩ hz hzl hzx hw hA (t0L_setHops l hlt D cA cR cL cF  a0 v p1 p2 q3 f3 hu) gL_law_L_setHops rfl rfl rfl (by decide +kernel) rfl ⟨Nat.le_of_ble_eq_true rfl, Nat.le_of_ble_eq_true rfl⟩ hl.1 rfl (Nat.le_of_ble_eq_true rfl) dL_law_594 ⟨(by show _ ≤ 601024; omega), (by show _ ≤ 7293034; omega)⟩ [0, 2] [1, 3] rfl rfl rfl) rfl (fun H locs hw => ?_)
    refine lv_istore (lv' := [(6, .int (1 : Int32)), (0, .ref b), (1, .ref a0.1), (2, .ref a1.1), (3, .ref q3), (4, .ref q4), (5, .int x5)]) hx hb dL_law_597 hl (by decide) rfl (fun ls hl => ?_)
    refine lv_aload_n hx hb dL_law_599 rfl (lv_at hl 3 rfl) ?_
    refine lv_aload_n hx hb dL_law_600 rfl (lv_at hl 1 rfl) ?_
    refine lv_iload hx hb dL_law_601 (lv_at hl 6 rfl) ?_
    refine lv_iconst (v := 1) hx hb dL_law_603 (by decide) ?_
    refine lv_iadd hx hb dL_law_604 ?_
    refine va_sld hx hb hX hbl hbA hw.2.2 h1 dL_law_605 ?_
    refine lv_topi (fun y ey => ?_)
    obtain rfl : p1 = y := (ey.trans e1).symm
    refine lv_aload_n hx hb dL_law_606 rfl (lv_at hl 1 rfl) ?_
    refine lv_iload hx hb dL_law_607 (lv_at hl 6 rfl) ?_
    refine lv_iconst (v := 2) hx hb dL_law_609 (by decide) ?_
    refine lv_iadd hx hb dL_law_610 ?_
    refine va_sld hx hb hX hbl hbA hw.2.2 h2 dL_law_611 ?_
    refine lv_topi (fun y ey => ?_)
    obtain rfl : p2 = y := (ey.trans e2).symm
    refine k_callV (ci := 11) (C := RX11) (T := TX11) (N := 14) (nA := 2) (As := [.int p1, .int p2]) (cs := [w11 cA a1 w]) (rs := [w10 cA cR a0 v, [(q3, .inl (cL, 1, .inr (.inl f3)))], [(q4, .inl (cF, 1, .inr (.inr (.inr (.inl f4)))))]]) (cs1 := [w11 cA a1 z.2]) (bs1 := [w10 cA cR a0 v, w11 cA a1 z.2, [(q3, .inl (cL, 1, .inr (.inl f3)))], [(q4, .inl (cF, 1, .inr (.inr (.inr (.inl f4)))))]]) (rest := []) (st1 := [.int z.1]) ⟨hx, hb, hml, hown, hts⟩ hz hw hA (mX11_setHops l D cA cR N a1 w p1 p2 z hz1) gL_law_X11_setHops rfl rfl rfl (by decide +kernel) rfl ⟨Nat.le_of_ble_eq_true rfl, Nat.le_of_ble_eq_true rfl⟩ rfl rfl hl.1 rfl (Nat.le_of_ble_eq_true rfl) dL_law_612 ⟨(by show _ ≤ 601024; omega), (by show _ ≤ 7293034; omega)⟩ [1] [0, 2, 3] [0, 3, 1, 2] rfl rfl rfl rfl rfl rfl (fun H locs hw => ?_)
    refine lv_istore (lv' := [(7, .int z.1), (6, .int (1 : Int32)), (0, .ref b), (1, .ref a0.1), (2, .ref a1.1), (3, .ref q3), (4, .ref q4), (5, .int x5)]) hx hb dL_law_615 hl (by decide) rfl (fun ls hl => ?_)
    refine lv_aload_n hx hb dL_law_617 rfl (lv_at hl 4 rfl) ?_
    refine k_callV (ci := 11) (C := RX11) (T := TX11) (N := 14) (nA := 0) (As := []) (cs := [w11 cA a1 z.2]) (rs := [w10 cA cR a0 v, [(q3, .inl (cL, 1, .inr (.inl f3)))], [(q4, .inl (cF, 1, .inr (.inr (.inr (.inl f4)))))]]) (cs1 := [w11 cA a1 z.2]) (bs1 := [w10 cA cR a0 v, w11 cA a1 z.2, [(q3, .inl (cL, 1, .inr (.inl f3)))], [(q4, .inl (cF, 1, .inr (.inr (.inr (.inl f4)))))]]) (rest := []) (st1 := [.int z.2.2.2.2.1]) ⟨hx, hb, hml, hown, hts⟩ hz hw hA (mX11_thrown l D cA cR a1 z.2 (z.2.2.2.2.1) rfl) gL_law_X11_thrown rfl rfl rfl (by decide +kernel) rfl ⟨Nat.le_of_ble_eq_true rfl, Nat.le_of_ble_eq_true rfl⟩ rfl rfl hl.1 rfl (Nat.le_of_ble_eq_true rfl) dL_law_618 ⟨(by show _ ≤ 601024; omega), (by show _ ≤ 7293034; omega)⟩ [1] [0, 2, 3] [0, 3, 1, 2] rfl rfl rfl rfl rfl rfl (fun H locs hw => ?_)
    refine lv_iload hx hb dL_law_621 (lv_at hl 1 rfl) ?_
    refine lv_icmp_eq (tgt := 628) hx hb dL_law_623 (by decide) (fun _ => ?_) (fun cc => absurd hth cc)
    refine lv_iload hx hb dL_law_628 (lv_at hl 1 rfl) ?_
    refine lv_if_ne (tgt := 645) hx hb dL_law_630 (by decide) (fun _ => ?_) (fun cc => absurd cc (by decide))
    refine lv_goto (tgt := 1547) hx hb dL_law_645 (by decide) ?_
    refine W.widen (k := k0 + 1) (n := s0 + 6) (by omega) (by omega) ?_
    exact kk v z.2 f3 f4 _ _ _ hR hw (lv_sub hl [2, 3, 4, 5, 6, 7] rfl)
set_option maxHeartbeats 4000000 in
set_option maxRecDepth 100000 in
theorem lk_6 {p : Program} {l : Launch} {e : Env} {s : State} {m : MethodId} {below : List Frame} {meth : Method} {c : Code} {D : va_G} {cA cR cL cF : ClassId} {b L : Nat} {xs : Nat → Int32} {RR : Nat → V10 → V11 → Prop} {N : Nat} (hpu : PU_append RR N) (X : LX p l s m c b L xs D cA cR cL cF) {k0 s0 : Nat} (hk0 : k0 + 1 ≤ 601024) (hs0 : s0 + 6 ≤ 7293034) {cn : Nat} (hcn : cn < 512) {x5 : Int32} {p1 : Int32} (h1 : vp_in (x5 + 1) L) (e1 : xs (x5 + 1).toNatClampNeg = p1) {v : V10} {w : V11} {a0 : A10} {a1 : A11} {q3 q4 : Nat} {f3 : Nat → Int64} {f4 : Nat → UInt64} {H : Heap} {locs : List Loc} {ls : Array Slot} {Q : State → Prop} (hR : RR cn v w) (hw : ww (fun q : Nat => s.heap.size ≤ q) s.heap D [w10 cA cR a0 v, w11 cA a1 w, [(q3, .inl (cL, 1, .inr (.inl f3)))], [(q4, .inl (cF, 1, .inr (.inr (.inr (.inl f4)))))]] H locs) (hl : lv_has ls 9 [(0, .ref b), (1, .ref a0.1), (2, .ref a1.1), (3, .ref q3), (4, .ref q4), (5, .int x5)])
    (kk : ∀ (v : V10) (w : V11) (f3 : Nat → Int64) (f4 : Nat → UInt64) (H : Heap) (locs : List Loc) (ls : Array Slot), RR (cn + 1) v w → ww (fun q : Nat => s.heap.size ≤ q) s.heap D [w10 cA cR a0 v, w11 cA a1 w, [(q3, .inl (cL, 1, .inr (.inl f3)))], [(q4, .inl (cF, 1, .inr (.inr (.inr (.inl f4)))))]] H locs → lv_has ls 9 [(0, .ref b), (1, .ref a0.1), (2, .ref a1.1), (3, .ref q3), (4, .ref q4), (5, .int x5)] → W p l e room_1 s m #[Value.ref b] below meth c H locs (k0 + 1) (s0 + 6) Q (F0 m 1547 ls [])) : W p l e room_1 s m #[Value.ref b] below meth c H locs k0 s0 Q (F0 m 648 ls []) := by
  obtain ⟨hx, hb, hml, hown, hts, hX, hbl, hz, hzl, hzx, hlt⟩ := X
  have hA : ∀ q : Nat, s.heap.size ≤ q → (fun q : Nat => s.heap.size ≤ q) q := fun _ h => h
  have hbA : ¬ (fun q : Nat => s.heap.size ≤ q) b := Nat.not_le.mpr hbl
  rcases hpu cn v w p1 hcn hR with ⟨u, z, hu, hz1, hth, hret, hR⟩ | ⟨z, hu, hz1, hth, hR⟩ | ⟨z, hu, hz1, hth, hR⟩
  · skip
    refine lv_aload_n hx hb dL_law_648 rfl (lv_at hl 1 rfl) ?_
    refine lv_aload_n hx hb dL_law_649 rfl (lv_at hl 0 rfl) ?_
    refine lv_iload hx hb dL_law_650 (lv_at hl 5 rfl) ?_
    refine lv_iconst (v := 1) hx hb dL_law_652 (by decide) ?_
    refine lv_iadd hx hb dL_law_653 ?_
    refine va_sld hx hb hX hbl hbA hw.2.2 h1 dL_law_654 ?_
    refine lv_topi (fun y ey => ?_)
    obtain rfl : p1 = y := (ey.trans e1).symm
    refine lv_aload_n hx hb dL_law_655 rfl (lv_at hl 3 rfl) ?_
    refine k_call (cs := [w10 cA cR a0 v, [(q3, .inl (cL, 1, .inr (.inl f3)))]]) (rs := [w11 cA a1 w, [(q4, .inl (cF, 1, .inr (.inr (.inr (.inl f4)))))]]) (cs1 := [w10 cA cR a0 u.2, [(q3, .inl (cL, 1, .inr (.inl (vp_updL f3 (0 : Int32).toNatClampNeg u.1.toInt64))))]]) (bs1 := [w10 cA cR a0 u.2, w11 cA a1 w, [(q3, .inl (cL, 1, .inr (.inl (vp_updL f3 (0 : Int32).toNatClampNeg u.1.toInt64))))], [(q4, .inl (cF, 1, .inr (.inr (.inr (.inl f4)))))]]) (rest := []) (st1 := [.int (0 : Int32)]) hw hA [0, 2] [1, 3] [2, 0, 3, 1] rfl rfl rfl rfl rfl (k_runL (nA := 3) (As := [.ref a0.1, .int p1, .ref q3]) (cs := [w10 cA cR a0 v, [(q3, .inl (cL, 1, .inr (.inl f3)))]]) (rs := [w11 cA a1 w, [(q4, .inl (cF, 1, .inr (.inr (.inr (.inl f4)))))]]) (rest := []) ⟨hx, hb, hml, hown, hts⟩ hz hzl hzx hw hA (mL_append l D cA cR cL cF  a0 v p1 q3 f3 u hu) gL_law_L_append rfl rfl rfl (by decide +kernel) rfl ⟨Nat.le_of_ble_eq_true rfl, Nat.le_of_ble_eq_true rfl⟩ hl.1 rfl (Nat.le_of_ble_eq_true rfl) dL_law_656 ⟨(by show _ ≤ 601024; omega), (by show _ ≤ 7293034; omega)⟩ [0, 2] [1, 3] rfl rfl rfl) rfl (fun H locs hw => ?_)
    refine lv_istore (lv' := [(6, .int (0 : Int32)), (0, .ref b), (1, .ref a0.1), (2, .ref a1.1), (3, .ref q3), (4, .ref q4), (5, .int x5)]) hx hb dL_law_659 hl (by decide) rfl (fun ls hl => ?_)
    refine lv_aload_n hx hb dL_law_661 rfl (lv_at hl 3 rfl) ?_
    refine lv_aload_n hx hb dL_law_662 rfl (lv_at hl 1 rfl) ?_
    refine lv_iload hx hb dL_law_663 (lv_at hl 6 rfl) ?_
    refine lv_iconst (v := 1) hx hb dL_law_665 (by decide) ?_
    refine lv_iadd hx hb dL_law_666 ?_
    refine va_sld hx hb hX hbl hbA hw.2.2 h1 dL_law_667 ?_
    refine lv_topi (fun y ey => ?_)
    obtain rfl : p1 = y := (ey.trans e1).symm
    refine k_callV (ci := 11) (C := RX11) (T := TX11) (N := 14) (nA := 1) (As := [.int p1]) (cs := [w11 cA a1 w]) (rs := [w10 cA cR a0 u.2, [(q3, .inl (cL, 1, .inr (.inl (vp_updL f3 (0 : Int32).toNatClampNeg u.1.toInt64))))], [(q4, .inl (cF, 1, .inr (.inr (.inr (.inl f4)))))]]) (cs1 := [w11 cA a1 z.2]) (bs1 := [w10 cA cR a0 u.2, w11 cA a1 z.2, [(q3, .inl (cL, 1, .inr (.inl (vp_updL f3 (0 : Int32).toNatClampNeg u.1.toInt64))))], [(q4, .inl (cF, 1, .inr (.inr (.inr (.inl f4)))))]]) (rest := []) (st1 := [.int z.1]) ⟨hx, hb, hml, hown, hts⟩ hz hw hA (mX11_append l D cA cR a1 w p1 z hz1) gL_law_X11_append rfl rfl rfl (by decide +kernel) rfl ⟨Nat.le_of_ble_eq_true rfl, Nat.le_of_ble_eq_true rfl⟩ rfl rfl hl.1 rfl (Nat.le_of_ble_eq_true rfl) dL_law_668 ⟨(by show _ ≤ 601024; omega), (by show _ ≤ 7293034; omega)⟩ [1] [0, 2, 3] [0, 3, 1, 2] rfl rfl rfl rfl rfl rfl (fun H locs hw => ?_)
    refine lv_istore (lv' := [(7, .int z.1), (6, .int (0 : Int32)), (0, .ref b), (1, .ref a0.1), (2, .ref a1.1), (3, .ref q3), (4, .ref q4), (5, .int x5)]) hx hb dL_law_671 hl (by decide) rfl (fun ls hl => ?_)
    refine lv_aload_n hx hb dL_law_673 rfl (lv_at hl 4 rfl) ?_
    refine k_callV (ci := 11) (C := RX11) (T := TX11) (N := 14) (nA := 0) (As := []) (cs := [w11 cA a1 z.2]) (rs := [w10 cA cR a0 u.2, [(q3, .inl (cL, 1, .inr (.inl (vp_updL f3 (0 : Int32).toNatClampNeg u.1.toInt64))))], [(q4, .inl (cF, 1, .inr (.inr (.inr (.inl f4)))))]]) (cs1 := [w11 cA a1 z.2]) (bs1 := [w10 cA cR a0 u.2, w11 cA a1 z.2, [(q3, .inl (cL, 1, .inr (.inl (vp_updL f3 (0 : Int32).toNatClampNeg u.1.toInt64))))], [(q4, .inl (cF, 1, .inr (.inr (.inr (.inl f4)))))]]) (rest := []) (st1 := [.int z.2.2.2.2.1]) ⟨hx, hb, hml, hown, hts⟩ hz hw hA (mX11_thrown l D cA cR a1 z.2 (z.2.2.2.2.1) rfl) gL_law_X11_thrown rfl rfl rfl (by decide +kernel) rfl ⟨Nat.le_of_ble_eq_true rfl, Nat.le_of_ble_eq_true rfl⟩ rfl rfl hl.1 rfl (Nat.le_of_ble_eq_true rfl) dL_law_674 ⟨(by show _ ≤ 601024; omega), (by show _ ≤ 7293034; omega)⟩ [1] [0, 2, 3] [0, 3, 1, 2] rfl rfl rfl rfl rfl rfl (fun H locs hw => ?_)
    refine lv_iload hx hb dL_law_677 (lv_at hl 1 rfl) ?_
    refine lv_icmp_eq (tgt := 684) hx hb dL_law_679 (by decide) (fun _ => ?_) (fun cc => absurd hth cc)
    refine lv_iload hx hb dL_law_684 (lv_at hl 1 rfl) ?_
    refine lv_if_ne (tgt := 701) hx hb dL_law_686 (by decide) (fun cc => absurd rfl cc) (fun _ => ?_)
    refine lv_aload_n hx hb dL_law_689 rfl (lv_at hl 5 rfl) ?_
    refine lv_iconst (v := 0) hx hb dL_law_690 (by decide) ?_
    refine k_lald hx hb hzl hw 2 rfl (by unfold vp_in; decide) dL_law_691 ?_
    refine lv_iload hx hb dL_law_692 (lv_at hl 0 rfl) ?_
    refine lv_i2l hx hb dL_law_694 rfl ?_
    refine W.lcmp hx hb dL_law_695 ?_
    refine lv_if_eq (tgt := 701) hx hb dL_law_696 (by decide) (fun _ => ?_) (fun cc => absurd (lcmp_same (by rw [← hret]; exact pk_uLs)) cc)
    refine lv_goto (tgt := 1547) hx hb dL_law_701 (by decide) ?_
    refine W.widen (k := k0 + 1) (n := s0 + 6) (by omega) (by omega) ?_
    exact kk u.2 z.2 (vp_updL f3 (0 : Int32).toNatClampNeg u.1.toInt64) f4 _ _ _ hR hw (lv_sub hl [2, 3, 4, 5, 6, 7] rfl)
  · skip
    refine lv_aload_n hx hb dL_law_648 rfl (lv_at hl 1 rfl) ?_
    refine lv_aload_n hx hb dL_law_649 rfl (lv_at hl 0 rfl) ?_
    refine lv_iload hx hb dL_law_650 (lv_at hl 5 rfl) ?_
    refine lv_iconst (v := 1) hx hb dL_law_652 (by decide) ?_
    refine lv_iadd hx hb dL_law_653 ?_
    refine va_sld hx hb hX hbl hbA hw.2.2 h1 dL_law_654 ?_
    refine lv_topi (fun y ey => ?_)
    obtain rfl : p1 = y := (ey.trans e1).symm
    refine lv_aload_n hx hb dL_law_655 rfl (lv_at hl 3 rfl) ?_
    refine k_call (cs := [w10 cA cR a0 v, [(q3, .inl (cL, 1, .inr (.inl f3)))]]) (rs := [w11 cA a1 w, [(q4, .inl (cF, 1, .inr (.inr (.inr (.inl f4)))))]]) (cs1 := [w10 cA cR a0 v, [(q3, .inl (cL, 1, .inr (.inl f3)))]]) (bs1 := [w10 cA cR a0 v, w11 cA a1 w, [(q3, .inl (cL, 1, .inr (.inl f3)))], [(q4, .inl (cF, 1, .inr (.inr (.inr (.inl f4)))))]]) (rest := []) (st1 := [.int (1 : Int32)]) hw hA [0, 2] [1, 3] [2, 0, 3, 1] rfl rfl rfl rfl rfl (k_runL (nA := 3) (As := [.ref a0.1, .int p1, .ref q3]) (cs := [w10 cA cR a0 v, [(q3, .inl (cL, 1, .inr (.inl f3)))]]) (rs := [w11 cA a1 w, [(q4, .inl (cF, 1, .inr (.inr (.inr (.inl f4)))))]]) (rest := []) ⟨hx, hb, hml, hown, hts⟩ hz hzl hzx hw hA (t0L_append l hlt D cA cR cL cF  a0 v p1 q3 f3 hu) gL_law_L_append rfl rfl rfl (by decide +kernel) rfl ⟨Nat.le_of_ble_eq_true rfl, Nat.le_of_ble_eq_true rfl⟩ hl.1 rfl (Nat.le_of_ble_eq_true rfl) dL_law_656 ⟨(by show _ ≤ 601024; omega), (by show _ ≤ 7293034; omega)⟩ [0, 2] [1, 3] rfl rfl rfl) rfl (fun H locs hw => ?_)
    refine lv_istore (lv' := [(6, .int (1 : Int32)), (0, .ref b), (1, .ref a0.1), (2, .ref a1.1), (3, .ref q3), (4, .ref q4), (5, .int x5)]) hx hb dL_law_659 hl (by decide) rfl (fun ls hl => ?_)
    refine lv_aload_n hx hb dL_law_661 rfl (lv_at hl 3 rfl) ?_
    refine lv_aload_n hx hb dL_law_662 rfl (lv_at hl 1 rfl) ?_
    refine lv_iload hx hb dL_law_663 (lv_at hl 6 rfl) ?_
    refine lv_iconst (v := 1) hx hb dL_law_665 (by decide) ?_
    refine lv_iadd hx hb dL_law_666 ?_
    refine va_sld hx hb hX hbl hbA hw.2.2 h1 dL_law_667 ?_
    refine lv_topi (fun y ey => ?_)
    obtain rfl : p1 = y := (ey.trans e1).symm
    refine k_callV (ci := 11) (C := RX11) (T := TX11) (N := 14) (nA := 1) (As := [.int p1]) (cs := [w11 cA a1 w]) (rs := [w10 cA cR a0 v, [(q3, .inl (cL, 1, .inr (.inl f3)))], [(q4, .inl (cF, 1, .inr (.inr (.inr (.inl f4)))))]]) (cs1 := [w11 cA a1 z.2]) (bs1 := [w10 cA cR a0 v, w11 cA a1 z.2, [(q3, .inl (cL, 1, .inr (.inl f3)))], [(q4, .inl (cF, 1, .inr (.inr (.inr (.inl f4)))))]]) (rest := []) (st1 := [.int z.1]) ⟨hx, hb, hml, hown, hts⟩ hz hw hA (mX11_append l D cA cR a1 w p1 z hz1) gL_law_X11_append rfl rfl rfl (by decide +kernel) rfl ⟨Nat.le_of_ble_eq_true rfl, Nat.le_of_ble_eq_true rfl⟩ rfl rfl hl.1 rfl (Nat.le_of_ble_eq_true rfl) dL_law_668 ⟨(by show _ ≤ 601024; omega), (by show _ ≤ 7293034; omega)⟩ [1] [0, 2, 3] [0, 3, 1, 2] rfl rfl rfl rfl rfl rfl (fun H locs hw => ?_)
    refine lv_istore (lv' := [(7, .int z.1), (6, .int (1 : Int32)), (0, .ref b), (1, .ref a0.1), (2, .ref a1.1), (3, .ref q3), (4, .ref q4), (5, .int x5)]) hx hb dL_law_671 hl (by decide) rfl (fun ls hl => ?_)
    refine lv_aload_n hx hb dL_law_673 rfl (lv_at hl 4 rfl) ?_
    refine k_callV (ci := 11) (C := RX11) (T := TX11) (N := 14) (nA := 0) (As := []) (cs := [w11 cA a1 z.2]) (rs := [w10 cA cR a0 v, [(q3, .inl (cL, 1, .inr (.inl f3)))], [(q4, .inl (cF, 1, .inr (.inr (.inr (.inl f4)))))]]) (cs1 := [w11 cA a1 z.2]) (bs1 := [w10 cA cR a0 v, w11 cA a1 z.2, [(q3, .inl (cL, 1, .inr (.inl f3)))], [(q4, .inl (cF, 1, .inr (.inr (.inr (.inl f4)))))]]) (rest := []) (st1 := [.int z.2.2.2.2.1]) ⟨hx, hb, hml, hown, hts⟩ hz hw hA (mX11_thrown l D cA cR a1 z.2 (z.2.2.2.2.1) rfl) gL_law_X11_thrown rfl rfl rfl (by decide +kernel) rfl ⟨Nat.le_of_ble_eq_true rfl, Nat.le_of_ble_eq_true rfl⟩ rfl rfl hl.1 rfl (Nat.le_of_ble_eq_true rfl) dL_law_674 ⟨(by show _ ≤ 601024; omega), (by show _ ≤ 7293034; omega)⟩ [1] [0, 2, 3] [0, 3, 1, 2] rfl rfl rfl rfl rfl rfl (fun H locs hw => ?_)
    refine lv_iload hx hb dL_law_677 (lv_at hl 1 rfl) ?_
    refine lv_icmp_eq (tgt := 684) hx hb dL_law_679 (by decide) (fun _ => ?_) (fun cc => absurd hth cc)
    refine lv_iload hx hb dL_law_684 (lv_at hl 1 rfl) ?_
    refine lv_if_ne (tgt := 701) hx hb dL_law_686 (by decide) (fun _ => ?_) (fun cc => absurd cc (by decide))
    refine lv_goto (tgt := 1547) hx hb dL_law_701 (by decide) ?_
    refine W.widen (k := k0 + 1) (n := s0 + 6) (by omega) (by omega) ?_
    exact kk v z.2 f3 f4 _ _ _ hR hw (lv_sub hl [2, 3, 4, 5, 6, 7] rfl)
  · skip
    refine lv_aload_n hx hb dL_law_648 rfl (lv_at hl 1 rfl) ?_
    refine lv_aload_n hx hb dL_law_649 rfl (lv_at hl 0 rfl) ?_
    refine lv_iload hx hb dL_law_650 (lv_at hl 5 rfl) ?_
    refine lv_iconst (v := 1) hx hb dL_law_652 (by decide) ?_
    refine lv_iadd hx hb dL_law_653 ?_
    refine va_sld hx hb hX hbl hbA hw.2.2 h1 dL_law_654 ?_
    refine lv_topi (fun y ey => ?_)
    obtain rfl : p1 = y := (ey.trans e1).symm
    refine lv_aload_n hx hb dL_law_655 rfl (lv_at hl 3 rfl) ?_
    refine k_call (cs := [w10 cA cR a0 v, [(q3, .inl (cL, 1, .inr (.inl f3)))]]) (rs := [w11 cA a1 w, [(q4, .inl (cF, 1, .inr (.inr (.inr (.inl f4)))))]]) (cs1 := [w10 cA cR a0 v, [(q3, .inl (cL, 1, .inr (.inl f3)))]]) (bs1 := [w10 cA cR a0 v, w11 cA a1 w, [(q3, .inl (cL, 1, .inr (.inl f3)))], [(q4, .inl (cF, 1, .inr (.inr (.inr (.inl f4)))))]]) (rest := []) (st1 := [.int (2 : Int32)]) hw hA [0, 2] [1, 3] [2, 0, 3, 1] rfl rfl rfl rfl rfl (k_runL (nA := 3) (As := [.ref a0.1, .int p1, .ref q3]) (cs := [w10 cA cR a0 v, [(q3, .inl (cL, 1, .inr (.inl f3)))]]) (rs := [w11 cA a1 w, [(q4, .inl (cF, 1, .inr (.inr (.inr (.inl f4)))))]]) (rest := []) ⟨hx, hb, hml, hown, hts⟩ hz hzl hzx hw hA (t1L_append l hlt D cA cR cL cF  a0 v p1 q3 f3 hu) gL_law_L_append rfl rfl rfl (by decide +kernel) rfl ⟨Nat.le_of_ble_eq_true rfl, Nat.le_of_ble_eq_true rfl⟩ hl.1 rfl (Nat.le_of_ble_eq_true rfl) dL_law_656 ⟨(by show _ ≤ 601024; omega), (by show _ ≤ 7293034; omega)⟩ [0, 2] [1, 3] rfl rfl rfl) rfl (fun H locs hw => ?_)
    refine lv_istore (lv' := [(6, .int (2 : Int32)), (0, .ref b), (1, .ref a0.1), (2, .ref a1.1), (3, .ref q3), (4, .ref q4), (5, .int x5)]) hx hb dL_law_659 hl (by decide) rfl (fun ls hl => ?_)
    refine lv_aload_n hx hb dL_law_661 rfl (lv_at hl 3 rfl) ?_
    refine lv_aload_n hx hb dL_law_662 rfl (lv_at hl 1 rfl) ?_
    refine lv_iload hx hb dL_law_663 (lv_at hl 6 rfl) ?_
    refine lv_iconst (v := 1) hx hb dL_law_665 (by decide) ?_
    refine lv_iadd hx hb dL_law_666 ?_
    refine va_sld hx hb hX hbl hbA hw.2.2 h1 dL_law_667 ?_
    refine lv_topi (fun y ey => ?_)
    obtain rfl : p1 = y := (ey.trans e1).symm
    refine k_callV (ci := 11) (C := RX11) (T := TX11) (N := 14) (nA := 1) (As := [.int p1]) (cs := [w11 cA a1 w]) (rs := [w10 cA cR a0 v, [(q3, .inl (cL, 1, .inr (.inl f3)))], [(q4, .inl (cF, 1, .inr (.inr (.inr (.inl f4)))))]]) (cs1 := [w11 cA a1 z.2]) (bs1 := [w10 cA cR a0 v, w11 cA a1 z.2, [(q3, .inl (cL, 1, .inr (.inl f3)))], [(q4, .inl (cF, 1, .inr (.inr (.inr (.inl f4)))))]]) (rest := []) (st1 := [.int z.1]) ⟨hx, hb, hml, hown, hts⟩ hz hw hA (mX11_append l D cA cR a1 w p1 z hz1) gL_law_X11_append rfl rfl rfl (by decide +kernel) rfl ⟨Nat.le_of_ble_eq_true rfl, Nat.le_of_ble_eq_true rfl⟩ rfl rfl hl.1 rfl (Nat.le_of_ble_eq_true rfl) dL_law_668 ⟨(by show _ ≤ 601024; omega), (by show _ ≤ 7293034; omega)⟩ [1] [0, 2, 3] [0, 3, 1, 2] rfl rfl rfl rfl rfl rfl (fun H locs hw => ?_)
    refine lv_istore (lv' := [(7, .int z.1), (6, .int (2 : Int32)), (0, .ref b), (1, .ref a0.1), (2, .ref a1.1), (3, .ref q3), (4, .ref q4), (5, .int x5)]) hx hb dL_law_671 hl (by decide) rfl (fun ls hl => ?_)
    refine lv_aload_n hx hb dL_law_673 rfl (lv_at hl 4 rfl) ?_
    refine k_callV (ci := 11) (C := RX11) (T := TX11) (N := 14) (nA := 0) (As := []) (cs := [w11 cA a1 z.2]) (rs := [w10 cA cR a0 v, [(q3, .inl (cL, 1, .inr (.inl f3)))], [(q4, .inl (cF, 1, .inr (.inr (.inr (.inl f4)))))]]) (cs1 := [w11 cA a1 z.2]) (bs1 := [w10 cA cR a0 v, w11 cA a1 z.2, [(q3, .inl (cL, 1, .inr (.inl f3)))], [(q4, .inl (cF, 1, .inr (.inr (.inr (.inl f4)))))]]) (rest := []) (st1 := [.int z.2.2.2.2.1]) ⟨hx, hb, hml, hown, hts⟩ hz hw hA (mX11_thrown l D cA cR a1 z.2 (z.2.2.2.2.1) rfl) gL_law_X11_thrown rfl rfl rfl (by decide +kernel) rfl ⟨Nat.le_of_ble_eq_true rfl, Nat.le_of_ble_eq_true rfl⟩ rfl rfl hl.1 rfl (Nat.le_of_ble_eq_true rfl) dL_law_674 ⟨(by show _ ≤ 601024; omega), (by show _ ≤ 7293034; omega)⟩ [1] [0, 2, 3] [0, 3, 1, 2] rfl rfl rfl rfl rfl rfl (fun H locs hw => ?_)
    refine lv_iload hx hb dL_law_677 (lv_at hl 1 rfl) ?_
    refine lv_icmp_eq (tgt := 684) hx hb dL_law_679 (by decide) (fun _ => ?_) (fun cc => absurd hth cc)
    refine lv_iload hx hb dL_law_684 (lv_at hl 1 rfl) ?_
    refine lv_if_ne (tgt := 701) hx hb dL_law_686 (by decide) (fun _ => ?_) (fun cc => absurd cc (by decide))
    refine lv_goto (tgt := 1547) hx hb dL_law_701 (by decide) ?_
    refine W.widen (k := k0 + 1) (n := s0 + 6) (by omega) (by omega) ?_
    exact kk v z.2 f3 f4 _ _ _ hR hw (lv_sub hl [2, 3, 4, 5, 6, 7] rfl)
set_option maxHeartbeats 4000000 in
set_option maxRecDepth 100000 in
theorem lk_7 {p : Program} {l : Launch} {e : Env} {s : State} {m : MethodId} {below : List Frame} {meth : Method} {c : Code} {D : va_G} {cA cR cL cF : ClassId} {b L : Nat} {xs : Nat → Int32} {RR : Nat → V10 → V11 → Prop} {N : Nat} (hpu : PU_clearText RR N) (X : LX p l s m c b L xs D cA cR cL cF) {k0 s0 : Nat} (hk0 : k0 + 1 ≤ 601024) (hs0 : s0 + 6 ≤ 7293034) {cn : Nat} (hcn : cn < 512) {x5 : Int32} {v : V10} {w : V11} {a0 : A10} {a1 : A11} {q3 q4 : Nat} {f3 : Nat → Int64} {f4 : Nat → UInt64} {H : Heap} {locs : List Loc} {ls : Array Slot} {Q : State → Prop} (hR : RR cn v w) (hw : ww (fun q : Nat => s.heap.size ≤ q) s.heap D [w10 cA cR a0 v, w11 cA a1 w, [(q3, .inl (cL, 1, .inr (.inl f3)))], [(q4, .inl (cF, 1, .inr (.inr (.inr (.inl f4)))))]] H locs) (hl : lv_has ls 9 [(0, .ref b), (1, .ref a0.1), (2, .ref a1.1), (3, .ref q3), (4, .ref q4), (5, .int x5)])
    (kk : ∀ (v : V10) (w : V11) (f3 : Nat → Int64) (f4 : Nat → UInt64) (H : Heap) (locs : List Loc) (ls : Array Slot), RR (cn + 1) v w → ww (fun q : Nat => s.heap.size ≤ q) s.heap D [w10 cA cR a0 v, w11 cA a1 w, [(q3, .inl (cL, 1, .inr (.inl f3)))], [(q4, .inl (cF, 1, .inr (.inr (.inr (.inl f4)))))]] H locs → lv_has ls 9 [(0, .ref b), (1, .ref a0.1), (2, .ref a1.1), (3, .ref q3), (4, .ref q4), (5, .int x5)] → W p l e room_1 s m #[Value.ref b] below meth c H locs (k0 + 1) (s0 + 6) Q (F0 m 1547 ls [])) : W p l e room_1 s m #[Value.ref b] below meth c H locs k0 s0 Q (F0 m 704 ls []) := by
  obtain ⟨hx, hb, hml, hown, hts, hX, hbl, hz, hzl, hzx, hlt⟩ := X
  have hA : ∀ q : Nat, s.heap.size ≤ q → (fun q : Nat => s.heap.size ≤ q) q := fun _ h => h
  have hbA : ¬ (fun q : Nat => s.heap.size ≤ q) b := Nat.not_le.mpr hbl
  obtain ⟨u, z, hu, hz1, hret, hR⟩ := hpu cn v w hcn hR
  refine lv_aload_n hx hb dL_law_704 rfl (lv_at hl 1 rfl) ?_
  refine k_callV (ci := 10) (C := RX10) (T := TX10) (N := 7) (nA := 0) (As := []) (cs := [w10 cA cR a0 v]) (rs := [w11 cA a1 w, [(q3, .inl (cL, 1, .inr (.inl f3)))], [(q4, .inl (cF, 1, .inr (.inr (.inr (.inl f4)))))]]) (cs1 := [w10 cA cR a0 u.2]) (bs1 := [w10 cA cR a0 u.2, w11 cA a1 w, [(q3, .inl (cL, 1, .inr (.inl f3)))], [(q4, .inl (cF, 1, .inr (.inr (.inr (.inl f4)))))]]) (rest := []) (st1 := [.int u.1]) ⟨hx, hb, hml, hown, hts⟩ hz hw hA (mX10_clearText l D cA cR a0 v u hu) gL_law_X10_clearText rfl rfl rfl (by decide +kernel) rfl ⟨Nat.le_of_ble_eq_true rfl, Nat.le_of_ble_eq_true rfl⟩ rfl rfl hl.1 rfl (Nat.le_of_ble_eq_true rfl) dL_law_705 ⟨(by show _ ≤ 601024; omega), (by show _ ≤ 7293034; omega)⟩ [0] [1, 2, 3] [3, 0, 1, 2] rfl rfl rfl rfl rfl rfl (fun H locs hw => ?_)
  refine lv_aload_n hx hb dL_law_708 rfl (lv_at hl 2 rfl) ?_
  refine k_callV (ci := 11) (C := RX11) (T := TX11) (N := 14) (nA := 0) (As := []) (cs := [w11 cA a1 w]) (rs := [w10 cA cR a0 u.2, [(q3, .inl (cL, 1, .inr (.inl f3)))], [(q4, .inl (cF, 1, .inr (.inr (.inr (.inl f4)))))]]) (cs1 := [w11 cA a1 z.2]) (bs1 := [w10 cA cR a0 u.2, w11 cA a1 z.2, [(q3, .inl (cL, 1, .inr (.inl f3)))], [(q4, .inl (cF, 1, .inr (.inr (.inr (.inl f4)))))]]) (rest := [.int u.1]) (st1 := [.int z.1, .int u.1]) ⟨hx, hb, hml, hown, hts⟩ hz hw hA (mX11_clearText l D cA cR a1 w z hz1) gL_law_X11_clearText rfl rfl rfl (by decide +kernel) rfl ⟨Nat.le_of_ble_eq_true rfl, Nat.le_of_ble_eq_true rfl⟩ rfl rfl hl.1 rfl (Nat.le_of_ble_eq_true rfl) dL_law_709 ⟨(by show _ ≤ 601024; omega), (by show _ ≤ 7293034; omega)⟩ [1] [0, 2, 3] [0, 3, 1, 2] rfl rfl rfl rfl rfl rfl (fun H locs hw => ?_)
  refine lv_icmp_eq (tgt := 1547) hx hb dL_law_712 (by decide) (fun _ => ?_) (fun cc => absurd hret cc)
  refine W.widen (k := k0 + 1) (n := s0 + 6) (by omega) (by omega) ?_
  exact kk u.2 z.2 f3 f4 _ _ _ hR hw hl
set_option maxHeartbeats 4000000 in
set_option maxRecDepth 100000 in
theorem lk_8 {p : Program} {l : Launch} {e : Env} {s : State} {m : MethodId} {below : List Frame} {meth : Method} {c : Code} {D : va_G} {cA cR cL cF : ClassId} {b L : Nat} {xs : Nat → Int32} {RR : Nat → V10 → V11 → Prop} {N : Nat} (hpu : PU_parsePlan RR N) (X : LX p l s m c b L xs D cA cR cL cF) {k0 s0 : Nat} (hk0 : k0 + 1 ≤ 601024) (hs0 : s0 + 6 ≤ 7293034) {cn : Nat} (hcn : cn < 512) {x5 : Int32} {v : V10} {w : V11} {a0 : A10} {a1 : A11} {q3 q4 : Nat} {f3 : Nat → Int64} {f4 : Nat → UInt64} {H : Heap} {locs : List Loc} {ls : Array Slot} {Q : State → Prop} (hR : RR cn v w) (hw : ww (fun q : Nat => s.heap.size ≤ q) s.heap D [w10 cA cR a0 v, w11 cA a1 w, [(q3, .inl (cL, 1, .inr (.inl f3)))], [(q4, .inl (cF, 1, .inr (.inr (.inr (.inl f4)))))]] H locs) (hl : lv_has ls 9 [(0, .ref b), (1, .ref a0.1), (2, .ref a1.1), (3, .ref q3), (4, .ref q4), (5, .int x5)])
    (kk : ∀ (v : V10) (w : V11) (f3 : Nat → Int64) (f4 : Nat → UInt64) (H : Heap) (locs : List Loc) (ls : Array Slot), RR (cn + 1) v w → ww (fun q : Nat => s.heap.size ≤ q) s.heap D [w10 cA cR a0 v, w11 cA a1 w, [(q3, .inl (cL, 1, .inr (.inl f3)))], [(q4, .inl (cF, 1, .inr (.inr (.inr (.inl f4)))))]] H locs → lv_has ls 9 [(0, .ref b), (1, .ref a0.1), (2, .ref a1.1), (3, .ref q3), (4, .ref q4), (5, .int x5)] → W p l e room_1 s m #[Value.ref b] below meth c H locs (k0 + 1) (s0 + 6) Q (F0 m 1547 ls [])) : W p l e room_1 s m #[Value.ref b] below meth c H locs k0 s0 Q (F0 m 717 ls []) := by
  obtain ⟨hx, hb, hml, hown, hts, hX, hbl, hz, hzl, hzx, hlt⟩ := X
  have hA : ∀ q : Nat, s.heap.size ≤ q → (fun q : Nat => s.heap.size ≤ q) q := fun _ h => h
  have hbA : ¬ (fun q : Nat => s.heap.size ≤ q) b := Nat.not_le.mpr hbl
  obtain ⟨u, z, hu, hz1, hret, hR⟩ := hpu cn v w hcn hR
  refine lv_aload_n hx hb dL_law_717 rfl (lv_at hl 1 rfl) ?_
  refine k_callV (ci := 10) (C := RX10) (T := TX10) (N := 7) (nA := 0) (As := []) (cs := [w10 cA cR a0 v]) (rs := [w11 cA a1 w, [(q3, .inl (cL, 1, .inr (.inl f3)))], [(q4, .inl (cF, 1, .inr (.inr (.inr (.inl f4)))))]]) (cs1 := [w10 cA cR a0 u.2]) (bs1 := [w10 cA cR a0 u.2, w11 cA a1 w, [(q3, .inl (cL, 1, .inr (.inl f3)))], [(q4, .inl (cF, 1, .inr (.inr (.inr (.inl f4)))))]]) (rest := []) (st1 := [.int u.1]) ⟨hx, hb, hml, hown, hts⟩ hz hw hA (mX10_parsePlan l D cA cR N a0 v u hu) gL_law_X10_parsePlan rfl rfl rfl (by decide +kernel) rfl ⟨Nat.le_of_ble_eq_true rfl, Nat.le_of_ble_eq_true rfl⟩ rfl rfl hl.1 rfl (Nat.le_of_ble_eq_true rfl) dL_law_718 ⟨(by show _ ≤ 601024; omega), (by show _ ≤ 7293034; omega)⟩ [0] [1, 2, 3] [3, 0, 1, 2] rfl rfl rfl rfl rfl rfl (fun H locs hw => ?_)
  refine lv_aload_n hx hb dL_law_721 rfl (lv_at hl 2 rfl) ?_
  refine k_callV (ci := 11) (C := RX11) (T := TX11) (N := 14) (nA := 0) (As := []) (cs := [w11 cA a1 w]) (rs := [w10 cA cR a0 u.2, [(q3, .inl (cL, 1, .inr (.inl f3)))], [(q4, .inl (cF, 1, .inr (.inr (.inr (.inl f4)))))]]) (cs1 := [w11 cA a1 z.2]) (bs1 := [w10 cA cR a0 u.2, w11 cA a1 z.2, [(q3, .inl (cL, 1, .inr (.inl f3)))], [(q4, .inl (cF, 1, .inr (.inr (.inr (.inl f4)))))]]) (rest := [.int u.1]) (st1 := [.int z.1, .int u.1]) ⟨hx, hb, hml, hown, hts⟩ hz hw hA (mX11_parsePlan l D cA cR N a1 w z hz1) gL_law_X11_parsePlan rfl rfl rfl (by decide +kernel) rfl ⟨Nat.le_of_ble_eq_true rfl, Nat.le_of_ble_eq_true rfl⟩ rfl rfl hl.1 rfl (Nat.le_of_ble_eq_true rfl) dL_law_722 ⟨(by show _ ≤ 601024; omega), (by show _ ≤ 7293034; omega)⟩ [1] [0, 2, 3] [0, 3, 1, 2] rfl rfl rfl rfl rfl rfl (fun H locs hw => ?_)
  refine lv_icmp_eq (tgt := 1547) hx hb dL_law_725 (by decide) (fun _ => ?_) (fun cc => absurd hret cc)
  refine W.widen (k := k0 + 1) (n := s0 + 6) (by omega) (by omega) ?_
  exact kk u.2 z.2 f3 f4 _ _ _ hR hw hl
