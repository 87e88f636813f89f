/-! the law's cases, from its switch to its end of loop -/
set_option maxHeartbeats 4000000 in
set_option maxRecDepth 100000 in
theorem case_sets {p : Program} {l : Launch} {e : Env} {s : State} {m : MethodId} {below : List Frame} {meth : Method} {c : Code} {b L i x : Nat} {xs : Nat → Int32} {G : Gm} {Q : State → Prop} (hx : p.tables.exec = Jvm.exec) (hb : c.code = code) (hml : c.maxLocals = 4) (hown : s.vm.findClass RL = some m.cls) (hts : ∀ w ∈ gt, w.before #[Value.ref b] s = true) (hK : oK G s) (hN : oN s) (hZ : oZ (fun q : Nat => s.heap.size ≤ q) s s.heap) (hX : va_X b L xs s s.heap) (hbl : b < s.heap.size) (hL : L ≤ 1536) (hi : i + 3 ≤ L) {k : MBk} {q : MMk} {Ω : Om} {H : Heap} {locs : List Loc} {ls : Array Slot} (hl : lv_has ls 4 [(0, .ref b), (1, .ref x), (2, .ref (x + 175)), (3, .int (nI i))]) (hMB : inMB G Ω x k) (hMM : inMM G Ω (x + 175) q) (hR : Rel k q) (hW : oW G (fun q : Nat => s.heap.size ≤ q) Ω H) (hS : va_S (fun q : Nat => s.heap.size ≤ q) s.heap H locs) (kk : ∀ (k : MBk) (q : MMk) (Ω : Om) (H : Heap) (locs : List Loc), inMB G Ω x k → inMM G Ω (x + 175) q → Rel k q → oW G (fun q : Nat => s.heap.size ≤ q) Ω H → va_S (fun q : Nat => s.heap.size ≤ q) s.heap H locs → W p l e room_1 s m #[Value.ref b] below meth c H locs 183 3303 Q (F0 m 766 ls [])) : W p l e room_1 s m #[Value.ref b] below meth c H locs 183 3303 Q (F0 m 262 ls []) := by
  have ok := rel_ok hR
  have hA : ∀ q : Nat, s.heap.size ≤ q → (fun q : Nat => s.heap.size ≤ q) q := fun _ h => h
  have hbA : ¬ (fun q : Nat => s.heap.size ≤ q) b := Nat.not_le.mpr hbl
  obtain ⟨fs8, h8⟩ := inMB_o hMB
  have ix1 : vp_in (nI i + 1) L := by rw [nI_1]; exact vp_in_nI (by omega) (by omega)
  have ix2 : vp_in (nI i + 2) L := by rw [nI_2]; exact vp_in_nI (by omega) (by omega)
  refine lv_aload_n hx hb d_law_262 rfl (lv_at hl 1 rfl) ?_
  refine lv_aload_n hx hb d_law_263 rfl (lv_at hl 0 rfl) ?_
  refine lv_iload_n hx hb d_law_264 rfl (lv_at hl 3 rfl) ?_
  refine lv_iconst (v := 1) hx hb d_law_265 (by decide) ?_
  refine lv_iadd hx hb d_law_266 ?_
  refine va_sld hx hb hX hbl hbA hS ix1 d_law_267 ?_
  refine lv_aload_n hx hb d_law_268 rfl (lv_at hl 0 rfl) ?_
  refine lv_iload_n hx hb d_law_269 rfl (lv_at hl 3 rfl) ?_
  refine lv_iconst (v := 2) hx hb d_law_270 (by decide) ?_
  refine lv_iadd hx hb d_law_271 ?_
  refine va_sld hx hb hX hbl hbA hS ix2 d_law_272 ?_
  refine o_Vi (rest := []) (As := [.int (xs (nI i + 1).toNatClampNeg), .int (xs (nI i + 2).toNatClampNeg)]) (n := 2) hx hb hml hown hts hK hN hZ hW hS hA (m_sets l G _ Ω x k (xs (nI i + 1).toNatClampNeg) (xs (nI i + 2).toNatClampNeg) hMB ok.1) h8 rfl (good_V ml_L_40 im_X8_sets se_X8_sets ini_X8 co_X8_sets) (by decide +kernel) ⟨Nat.le_of_ble_eq_true rfl, Nat.le_of_ble_eq_true rfl⟩ hl.1 (Nat.le_of_ble_eq_true rfl) rfl rfl d_law_273 (fun r Ω1 H locs hp hW hS => ?_)
  obtain ⟨hr1, hMB, hF⟩ := hp
  replace hMM : inMM G Ω1 (x + 175) q := hMM.keep (fun z h1 h2 => hF z (by omega))
  refine lv_aload_n hx hb d_law_276 rfl (lv_at hl 2 rfl) ?_
  refine lv_aload_n hx hb d_law_277 rfl (lv_at hl 0 rfl) ?_
  refine lv_iload_n hx hb d_law_278 rfl (lv_at hl 3 rfl) ?_
  refine lv_iconst (v := 1) hx hb d_law_279 (by decide) ?_
  refine lv_iadd hx hb d_law_280 ?_
  refine va_sld hx hb hX hbl hbA hS ix1 d_law_281 ?_
  refine lv_aload_n hx hb d_law_282 rfl (lv_at hl 0 rfl) ?_
  refine lv_iload_n hx hb d_law_283 rfl (lv_at hl 3 rfl) ?_
  refine lv_iconst (v := 2) hx hb d_law_284 (by decide) ?_
  refine lv_iadd hx hb d_law_285 ?_
  refine va_sld hx hb hX hbl hbA hS ix2 d_law_286 ?_
  refine o_Vi (rest := [.int r]) (As := [.int (xs (nI i + 1).toNatClampNeg), .int (xs (nI i + 2).toNatClampNeg)]) (n := 2) hx hb hml hown hts hK hN hZ hW hS hA (n_sets l G _ Ω1 (x + 175) q (xs (nI i + 1).toNatClampNeg) (xs (nI i + 2).toNatClampNeg) hMM ok.2) (inMod_o hMM) rfl (good_V ml_L_43 im_X9_sets se_X9_sets ini_X9 co_X9_sets) (by decide +kernel) ⟨Nat.le_of_ble_eq_true rfl, Nat.le_of_ble_eq_true rfl⟩ hl.1 (Nat.le_of_ble_eq_true rfl) rfl rfl d_law_287 (fun r2 Ω2 H locs hp hW hS => ?_)
  obtain ⟨hr2, hMM, hF⟩ := hp
  replace hMB := inMB.keep hMB (fun z h1 h2 => hF z (by omega))
  have hs := s_sets hR (xs (nI i + 1).toNatClampNeg) (xs (nI i + 2).toNatClampNeg)
  refine lv_icmp_eq (tgt := 766) hx hb d_law_290 (by decide) (fun _ => ?_) (fun c_ => absurd (by rw [hr1, hr2]; exact hs.1) c_)
  exact kk _ _ _ _ _ hMB hMM hs.2 hW hS
set_option maxHeartbeats 4000000 in
set_option maxRecDepth 100000 in
theorem case_breaks {p : Program} {l : Launch} {e : Env} {s : State} {m : MethodId} {below : List Frame} {meth : Method} {c : Code} {b L i x : Nat} {xs : Nat → Int32} {G : Gm} {Q : State → Prop} (hx : p.tables.exec = Jvm.exec) (hb : c.code = code) (hml : c.maxLocals = 4) (hown : s.vm.findClass RL = some m.cls) (hts : ∀ w ∈ gt, w.before #[Value.ref b] s = true) (hK : oK G s) (hN : oN s) (hZ : oZ (fun q : Nat => s.heap.size ≤ q) s s.heap) (hX : va_X b L xs s s.heap) (hbl : b < s.heap.size) (hL : L ≤ 1536) (hi : i + 3 ≤ L) {k : MBk} {q : MMk} {Ω : Om} {H : Heap} {locs : List Loc} {ls : Array Slot} (hl : lv_has ls 4 [(0, .ref b), (1, .ref x), (2, .ref (x + 175)), (3, .int (nI i))]) (hMB : inMB G Ω x k) (hMM : inMM G Ω (x + 175) q) (hR : Rel k q) (hW : oW G (fun q : Nat => s.heap.size ≤ q) Ω H) (hS : va_S (fun q : Nat => s.heap.size ≤ q) s.heap H locs) (kk : ∀ (k : MBk) (q : MMk) (Ω : Om) (H : Heap) (locs : List Loc), inMB G Ω x k → inMM G Ω (x + 175) q → Rel k q → oW G (fun q : Nat => s.heap.size ≤ q) Ω H → va_S (fun q : Nat => s.heap.size ≤ q) s.heap H locs → W p l e room_1 s m #[Value.ref b] below meth c H locs 183 3303 Q (F0 m 766 ls [])) : W p l e room_1 s m #[Value.ref b] below meth c H locs 183 3303 Q (F0 m 295 ls []) := by
  have ok := rel_ok hR
  have hA : ∀ q : Nat, s.heap.size ≤ q → (fun q : Nat => s.heap.size ≤ q) q := fun _ h => h
  have hbA : ¬ (fun q : Nat => s.heap.size ≤ q) b := Nat.not_le.mpr hbl
  obtain ⟨fs8, h8⟩ := inMB_o hMB
  have ix1 : vp_in (nI i + 1) L := by rw [nI_1]; exact vp_in_nI (by omega) (by omega)
  have ix2 : vp_in (nI i + 2) L := by rw [nI_2]; exact vp_in_nI (by omega) (by omega)
  refine lv_aload_n hx hb d_law_295 rfl (lv_at hl 1 rfl) ?_
  refine lv_aload_n hx hb d_law_296 rfl (lv_at hl 0 rfl) ?_
  refine lv_iload_n hx hb d_law_297 rfl (lv_at hl 3 rfl) ?_
  refine lv_iconst (v := 1) hx hb d_law_298 (by decide) ?_
  refine lv_iadd hx hb d_law_299 ?_
  refine va_sld hx hb hX hbl hbA hS ix1 d_law_300 ?_
  refine lv_aload_n hx hb d_law_301 rfl (lv_at hl 0 rfl) ?_
  refine lv_iload_n hx hb d_law_302 rfl (lv_at hl 3 rfl) ?_
  refine lv_iconst (v := 2) hx hb d_law_303 (by decide) ?_
  refine lv_iadd hx hb d_law_304 ?_
  refine va_sld hx hb hX hbl hbA hS ix2 d_law_305 ?_
  refine o_Vi (rest := []) (As := [.int (xs (nI i + 1).toNatClampNeg), .int (xs (nI i + 2).toNatClampNeg)]) (n := 2) hx hb hml hown hts hK hN hZ hW hS hA (m_breaks l G _ Ω x k (xs (nI i + 1).toNatClampNeg) (xs (nI i + 2).toNatClampNeg) hMB ok.1) h8 rfl (good_V ml_L_44 im_X8_breaks se_X8_breaks ini_X8 co_X8_breaks) (by decide +kernel) ⟨Nat.le_of_ble_eq_true rfl, Nat.le_of_ble_eq_true rfl⟩ hl.1 (Nat.le_of_ble_eq_true rfl) rfl rfl d_law_306 (fun r Ω1 H locs hp hW hS => ?_)
  obtain ⟨hr1, hMB, hF⟩ := hp
  replace hMM : inMM G Ω1 (x + 175) q := hMM.keep (fun z h1 h2 => hF z (by omega))
  refine lv_aload_n hx hb d_law_309 rfl (lv_at hl 2 rfl) ?_
  refine lv_aload_n hx hb d_law_310 rfl (lv_at hl 0 rfl) ?_
  refine lv_iload_n hx hb d_law_311 rfl (lv_at hl 3 rfl) ?_
  refine lv_iconst (v := 1) hx hb d_law_312 (by decide) ?_
  refine lv_iadd hx hb d_law_313 ?_
  refine va_sld hx hb hX hbl hbA hS ix1 d_law_314 ?_
  refine lv_aload_n hx hb d_law_315 rfl (lv_at hl 0 rfl) ?_
  refine lv_iload_n hx hb d_law_316 rfl (lv_at hl 3 rfl) ?_
  refine lv_iconst (v := 2) hx hb d_law_317 (by decide) ?_
  refine lv_iadd hx hb d_law_318 ?_
  refine va_sld hx hb hX hbl hbA hS ix2 d_law_319 ?_
  refine o_Vi (rest := [.int r]) (As := [.int (xs (nI i + 1).toNatClampNeg), .int (xs (nI i + 2).toNatClampNeg)]) (n := 2) hx hb hml hown hts hK hN hZ hW hS hA (n_breaks l G _ Ω1 (x + 175) q (xs (nI i + 1).toNatClampNeg) (xs (nI i + 2).toNatClampNeg) hMM ok.2) (inMod_o hMM) rfl (good_V ml_L_47 im_X9_breaks se_X9_breaks ini_X9 co_X9_breaks) (by decide +kernel) ⟨Nat.le_of_ble_eq_true rfl, Nat.le_of_ble_eq_true rfl⟩ hl.1 (Nat.le_of_ble_eq_true rfl) rfl rfl d_law_320 (fun r2 Ω2 H locs hp hW hS => ?_)
  obtain ⟨hr2, hMM, hF⟩ := hp
  replace hMB := inMB.keep hMB (fun z h1 h2 => hF z (by omega))
  have hs := s_breaks hR (xs (nI i + 1).toNatClampNeg) (xs (nI i + 2).toNatClampNeg)
  refine lv_icmp_eq (tgt := 766) hx hb d_law_323 (by decide) (fun _ => ?_) (fun c_ => absurd (by rw [hr1, hr2]; exact hs.1) c_)
  exact kk _ _ _ _ _ hMB hMM hs.2 hW hS
set_option maxHeartbeats 4000000 in
set_option maxRecDepth 100000 in
theorem case_undo {p : Program} {l : Launch} {e : Env} {s : State} {m : MethodId} {below : List Frame} {meth : Method} {c : Code} {b L i x : Nat} {xs : Nat → Int32} {G : Gm} {Q : State → Prop} (hx : p.tables.exec = Jvm.exec) (hb : c.code = code) (hml : c.maxLocals = 4) (hown : s.vm.findClass RL = some m.cls) (hts : ∀ w ∈ gt, w.before #[Value.ref b] s = true) (hK : oK G s) (hN : oN s) (hZ : oZ (fun q : Nat => s.heap.size ≤ q) s s.heap) (hX : va_X b L xs s s.heap) (hbl : b < s.heap.size) (hL : L ≤ 1536) (hi : i + 3 ≤ L) {k : MBk} {q : MMk} {Ω : Om} {H : Heap} {locs : List Loc} {ls : Array Slot} (hl : lv_has ls 4 [(0, .ref b), (1, .ref x), (2, .ref (x + 175)), (3, .int (nI i))]) (hMB : inMB G Ω x k) (hMM : inMM G Ω (x + 175) q) (hR : Rel k q) (hW : oW G (fun q : Nat => s.heap.size ≤ q) Ω H) (hS : va_S (fun q : Nat => s.heap.size ≤ q) s.heap H locs) (kk : ∀ (k : MBk) (q : MMk) (Ω : Om) (H : Heap) (locs : List Loc), inMB G Ω x k → inMM G Ω (x + 175) q → Rel k q → oW G (fun q : Nat => s.heap.size ≤ q) Ω H → va_S (fun q : Nat => s.heap.size ≤ q) s.heap H locs → W p l e room_1 s m #[Value.ref b] below meth c H locs 183 3303 Q (F0 m 766 ls [])) : W p l e room_1 s m #[Value.ref b] below meth c H locs 183 3303 Q (F0 m 328 ls []) := by
  have ok := rel_ok hR
  have hA : ∀ q : Nat, s.heap.size ≤ q → (fun q : Nat => s.heap.size ≤ q) q := fun _ h => h
  have hbA : ¬ (fun q : Nat => s.heap.size ≤ q) b := Nat.not_le.mpr hbl
  obtain ⟨fs8, h8⟩ := inMB_o hMB
  refine lv_aload_n hx hb d_law_328 rfl (lv_at hl 1 rfl) ?_
  refine o_Vi (rest := []) (As := []) (n := 0) hx hb hml hown hts hK hN hZ hW hS hA (m_undo l G _ Ω x k  hMB ok.1) h8 rfl (good_V ml_L_48 im_X8_undo se_X8_undo ini_X8 co_X8_undo) (by decide +kernel) ⟨Nat.le_of_ble_eq_true rfl, Nat.le_of_ble_eq_true rfl⟩ hl.1 (Nat.le_of_ble_eq_true rfl) rfl rfl d_law_329 (fun r Ω1 H locs hp hW hS => ?_)
  obtain ⟨hr1, hMB, hF⟩ := hp
  replace hMM : inMM G Ω1 (x + 175) q := hMM.keep (fun z h1 h2 => hF z (by omega))
  refine lv_aload_n hx hb d_law_332 rfl (lv_at hl 2 rfl) ?_
  refine o_Vi (rest := [.int r]) (As := []) (n := 0) hx hb hml hown hts hK hN hZ hW hS hA (n_undo l G _ Ω1 (x + 175) q  hMM ok.2) (inMod_o hMM) rfl (good_V ml_L_51 im_X9_undo se_X9_undo ini_X9 co_X9_undo) (by decide +kernel) ⟨Nat.le_of_ble_eq_true rfl, Nat.le_of_ble_eq_true rfl⟩ hl.1 (Nat.le_of_ble_eq_true rfl) rfl rfl d_law_333 (fun r2 Ω2 H locs hp hW hS => ?_)
  obtain ⟨hr2, hMM, hF⟩ := hp
  replace hMB := inMB.keep hMB (fun z h1 h2 => hF z (by omega))
  have hs := s_undo hR
  refine lv_icmp_eq (tgt := 766) hx hb d_law_336 (by decide) (fun _ => ?_) (fun c_ => absurd (by rw [hr1, hr2]; exact hs.1) c_)
  exact kk _ _ _ _ _ hMB hMM hs.2 hW hS
set_option maxHeartbeats 4000000 in
set_option maxRecDepth 100000 in
theorem case_field {p : Program} {l : Launch} {e : Env} {s : State} {m : MethodId} {below : List Frame} {meth : Method} {c : Code} {b L i x : Nat} {xs : Nat → Int32} {G : Gm} {Q : State → Prop} (hx : p.tables.exec = Jvm.exec) (hb : c.code = code) (hml : c.maxLocals = 4) (hown : s.vm.findClass RL = some m.cls) (hts : ∀ w ∈ gt, w.before #[Value.ref b] s = true) (hK : oK G s) (hN : oN s) (hZ : oZ (fun q : Nat => s.heap.size ≤ q) s s.heap) (hX : va_X b L xs s s.heap) (hbl : b < s.heap.size) (hL : L ≤ 1536) (hi : i + 3 ≤ L) {k : MBk} {q : MMk} {Ω : Om} {H : Heap} {locs : List Loc} {ls : Array Slot} (hl : lv_has ls 4 [(0, .ref b), (1, .ref x), (2, .ref (x + 175)), (3, .int (nI i))]) (hMB : inMB G Ω x k) (hMM : inMM G Ω (x + 175) q) (hR : Rel k q) (hW : oW G (fun q : Nat => s.heap.size ≤ q) Ω H) (hS : va_S (fun q : Nat => s.heap.size ≤ q) s.heap H locs) (kk : ∀ (k : MBk) (q : MMk) (Ω : Om) (H : Heap) (locs : List Loc), inMB G Ω x k → inMM G Ω (x + 175) q → Rel k q → oW G (fun q : Nat => s.heap.size ≤ q) Ω H → va_S (fun q : Nat => s.heap.size ≤ q) s.heap H locs → W p l e room_1 s m #[Value.ref b] below meth c H locs 183 3303 Q (F0 m 766 ls [])) : W p l e room_1 s m #[Value.ref b] below meth c H locs 183 3303 Q (F0 m 341 ls []) := by
  have ok := rel_ok hR
  have hA : ∀ q : Nat, s.heap.size ≤ q → (fun q : Nat => s.heap.size ≤ q) q := fun _ h => h
  have hbA : ¬ (fun q : Nat => s.heap.size ≤ q) b := Nat.not_le.mpr hbl
  obtain ⟨fs8, h8⟩ := inMB_o hMB
  have ix1 : vp_in (nI i + 1) L := by rw [nI_1]; exact vp_in_nI (by omega) (by omega)
  have ix2 : vp_in (nI i + 2) L := by rw [nI_2]; exact vp_in_nI (by omega) (by omega)
  refine lv_aload_n hx hb d_law_341 rfl (lv_at hl 1 rfl) ?_
  refine lv_aload_n hx hb d_law_342 rfl (lv_at hl 0 rfl) ?_
  refine lv_iload_n hx hb d_law_343 rfl (lv_at hl 3 rfl) ?_
  refine lv_iconst (v := 1) hx hb d_law_344 (by decide) ?_
  refine lv_iadd hx hb d_law_345 ?_
  refine va_sld hx hb hX hbl hbA hS ix1 d_law_346 ?_
  refine lv_aload_n hx hb d_law_347 rfl (lv_at hl 0 rfl) ?_
  refine lv_iload_n hx hb d_law_348 rfl (lv_at hl 3 rfl) ?_
  refine lv_iconst (v := 2) hx hb d_law_349 (by decide) ?_
  refine lv_iadd hx hb d_law_350 ?_
  refine va_sld hx hb hX hbl hbA hS ix2 d_law_351 ?_
  refine o_Vi (rest := []) (As := [.int (xs (nI i + 1).toNatClampNeg), .int (xs (nI i + 2).toNatClampNeg)]) (n := 2) hx hb hml hown hts hK hN hZ hW hS hA (m_field l G _ Ω x k (xs (nI i + 1).toNatClampNeg) (xs (nI i + 2).toNatClampNeg) hMB ok.1) h8 rfl (good_V ml_L_52 im_X8_field se_X8_field ini_X8 co_X8_field) (by decide +kernel) ⟨Nat.le_of_ble_eq_true rfl, Nat.le_of_ble_eq_true rfl⟩ hl.1 (Nat.le_of_ble_eq_true rfl) rfl rfl d_law_352 (fun r Ω1 H locs hp hW hS => ?_)
  obtain ⟨hr1, hMB, hF⟩ := hp
  replace hMM : inMM G Ω1 (x + 175) q := hMM.keep (fun z h1 h2 => hF z (by omega))
  refine lv_aload_n hx hb d_law_355 rfl (lv_at hl 2 rfl) ?_
  refine lv_aload_n hx hb d_law_356 rfl (lv_at hl 0 rfl) ?_
  refine lv_iload_n hx hb d_law_357 rfl (lv_at hl 3 rfl) ?_
  refine lv_iconst (v := 1) hx hb d_law_358 (by decide) ?_
  refine lv_iadd hx hb d_law_359 ?_
  refine va_sld hx hb hX hbl hbA hS ix1 d_law_360 ?_
  refine lv_aload_n hx hb d_law_361 rfl (lv_at hl 0 rfl) ?_
  refine lv_iload_n hx hb d_law_362 rfl (lv_at hl 3 rfl) ?_
  refine lv_iconst (v := 2) hx hb d_law_363 (by decide) ?_
  refine lv_iadd hx hb d_law_364 ?_
  refine va_sld hx hb hX hbl hbA hS ix2 d_law_365 ?_
  refine o_Vi (rest := [.int r]) (As := [.int (xs (nI i + 1).toNatClampNeg), .int (xs (nI i + 2).toNatClampNeg)]) (n := 2) hx hb hml hown hts hK hN hZ hW hS hA (n_field l G _ Ω1 (x + 175) q (xs (nI i + 1).toNatClampNeg) (xs (nI i + 2).toNatClampNeg) hMM ok.2) (inMod_o hMM) rfl (good_V ml_L_55 im_X9_field se_X9_field ini_X9 co_X9_field) (by decide +kernel) ⟨Nat.le_of_ble_eq_true rfl, Nat.le_of_ble_eq_true rfl⟩ hl.1 (Nat.le_of_ble_eq_true rfl) rfl rfl d_law_366 (fun r2 Ω2 H locs hp hW hS => ?_)
  obtain ⟨hr2, hMM, hF⟩ := hp
  replace hMB := inMB.keep hMB (fun z h1 h2 => hF z (by omega))
  have hs := s_field hR (xs (nI i + 1).toNatClampNeg) (xs (nI i + 2).toNatClampNeg)
  refine lv_icmp_eq (tgt := 766) hx hb d_law_369 (by decide) (fun _ => ?_) (fun c_ => absurd (by rw [hr1, hr2]; exact hs.1) c_)
  exact kk _ _ _ _ _ hMB hMM hs.2 hW hS
set_option maxHeartbeats 4000000 in
set_option maxRecDepth 100000 in
theorem case_register {p : Program} {l : Launch} {e : Env} {s : State} {m : MethodId} {below : List Frame} {meth : Method} {c : Code} {b L i x : Nat} {xs : Nat → Int32} {G : Gm} {Q : State → Prop} (hx : p.tables.exec = Jvm.exec) (hb : c.code = code) (hml : c.maxLocals = 4) (hown : s.vm.findClass RL = some m.cls) (hts : ∀ w ∈ gt, w.before #[Value.ref b] s = true) (hK : oK G s) (hN : oN s) (hZ : oZ (fun q : Nat => s.heap.size ≤ q) s s.heap) (hX : va_X b L xs s s.heap) (hbl : b < s.heap.size) (hL : L ≤ 1536) (hi : i + 3 ≤ L) {k : MBk} {q : MMk} {Ω : Om} {H : Heap} {locs : List Loc} {ls : Array Slot} (hl : lv_has ls 4 [(0, .ref b), (1, .ref x), (2, .ref (x + 175)), (3, .int (nI i))]) (hMB : inMB G Ω x k) (hMM : inMM G Ω (x + 175) q) (hR : Rel k q) (hW : oW G (fun q : Nat => s.heap.size ≤ q) Ω H) (hS : va_S (fun q : Nat => s.heap.size ≤ q) s.heap H locs) (kk : ∀ (k : MBk) (q : MMk) (Ω : Om) (H : Heap) (locs : List Loc), inMB G Ω x k → inMM G Ω (x + 175) q → Rel k q → oW G (fun q : Nat => s.heap.size ≤ q) Ω H → va_S (fun q : Nat => s.heap.size ≤ q) s.heap H locs → W p l e room_1 s m #[Value.ref b] below meth c H locs 183 3303 Q (F0 m 766 ls [])) : W p l e room_1 s m #[Value.ref b] below meth c H locs 183 3303 Q (F0 m 374 ls []) := by
  have ok := rel_ok hR
  have hA : ∀ q : Nat, s.heap.size ≤ q → (fun q : Nat => s.heap.size ≤ q) q := fun _ h => h
  have hbA : ¬ (fun q : Nat => s.heap.size ≤ q) b := Nat.not_le.mpr hbl
  obtain ⟨fs8, h8⟩ := inMB_o hMB
  have ix1 : vp_in (nI i + 1) L := by rw [nI_1]; exact vp_in_nI (by omega) (by omega)
  have ix2 : vp_in (nI i + 2) L := by rw [nI_2]; exact vp_in_nI (by omega) (by omega)
  refine lv_aload_n hx hb d_law_374 rfl (lv_at hl 1 rfl) ?_
  refine lv_aload_n hx hb d_law_375 rfl (lv_at hl 0 rfl) ?_
  refine lv_iload_n hx hb d_law_376 rfl (lv_at hl 3 rfl) ?_
  refine lv_iconst (v := 1) hx hb d_law_377 (by decide) ?_
  refine lv_iadd hx hb d_law_378 ?_
  refine va_sld hx hb hX hbl hbA hS ix1 d_law_379 ?_
  refine lv_aload_n hx hb d_law_380 rfl (lv_at hl 0 rfl) ?_
  refine lv_iload_n hx hb d_law_381 rfl (lv_at hl 3 rfl) ?_
  refine lv_iconst (v := 2) hx hb d_law_382 (by decide) ?_
  refine lv_iadd hx hb d_law_383 ?_
  refine va_sld hx hb hX hbl hbA hS ix2 d_law_384 ?_
  refine o_Vi (rest := []) (As := [.int (xs (nI i + 1).toNatClampNeg), .int (xs (nI i + 2).toNatClampNeg)]) (n := 2) hx hb hml hown hts hK hN hZ hW hS hA (m_register l G _ Ω x k (xs (nI i + 1).toNatClampNeg) (xs (nI i + 2).toNatClampNeg) hMB ok.1) h8 rfl (good_V ml_L_56 im_X8_register se_X8_register ini_X8 co_X8_register) (by decide +kernel) ⟨Nat.le_of_ble_eq_true rfl, Nat.le_of_ble_eq_true rfl⟩ hl.1 (Nat.le_of_ble_eq_true rfl) rfl rfl d_law_385 (fun r Ω1 H locs hp hW hS => ?_)
  obtain ⟨hr1, hMB, hF⟩ := hp
  replace hMM : inMM G Ω1 (x + 175) q := hMM.keep (fun z h1 h2 => hF z (by omega))
  refine lv_aload_n hx hb d_law_388 rfl (lv_at hl 2 rfl) ?_
  refine lv_aload_n hx hb d_law_389 rfl (lv_at hl 0 rfl) ?_
  refine lv_iload_n hx hb d_law_390 rfl (lv_at hl 3 rfl) ?_
  refine lv_iconst (v := 1) hx hb d_law_391 (by decide) ?_
  refine lv_iadd hx hb d_law_392 ?_
  refine va_sld hx hb hX hbl hbA hS ix1 d_law_393 ?_
  refine lv_aload_n hx hb d_law_394 rfl (lv_at hl 0 rfl) ?_
  refine lv_iload_n hx hb d_law_395 rfl (lv_at hl 3 rfl) ?_
  refine lv_iconst (v := 2) hx hb d_law_396 (by decide) ?_
  refine lv_iadd hx hb d_law_397 ?_
  refine va_sld hx hb hX hbl hbA hS ix2 d_law_398 ?_
  refine o_Vi (rest := [.int r]) (As := [.int (xs (nI i + 1).toNatClampNeg), .int (xs (nI i + 2).toNatClampNeg)]) (n := 2) hx hb hml hown hts hK hN hZ hW hS hA (n_register l G _ Ω1 (x + 175) q (xs (nI i + 1).toNatClampNeg) (xs (nI i + 2).toNatClampNeg) hMM ok.2) (inMod_o hMM) rfl (good_V ml_L_59 im_X9_register se_X9_register ini_X9 co_X9_register) (by decide +kernel) ⟨Nat.le_of_ble_eq_true rfl, Nat.le_of_ble_eq_true rfl⟩ hl.1 (Nat.le_of_ble_eq_true rfl) rfl rfl d_law_399 (fun r2 Ω2 H locs hp hW hS => ?_)
  obtain ⟨hr2, hMM, hF⟩ := hp
  replace hMB := inMB.keep hMB (fun z h1 h2 => hF z (by omega))
  have hs := s_register hR (xs (nI i + 1).toNatClampNeg) (xs (nI i + 2).toNatClampNeg)
  refine lv_icmp_eq (tgt := 766) hx hb d_law_402 (by decide) (fun _ => ?_) (fun c_ => absurd (by rw [hr1, hr2]; exact hs.1) c_)
  exact kk _ _ _ _ _ hMB hMM hs.2 hW hS
set_option maxHeartbeats 4000000 in
set_option maxRecDepth 100000 in
theorem case_alias {p : Program} {l : Launch} {e : Env} {s : State} {m : MethodId} {below : List Frame} {meth : Method} {c : Code} {b L i x : Nat} {xs : Nat → Int32} {G : Gm} {Q : State → Prop} (hx : p.tables.exec = Jvm.exec) (hb : c.code = code) (hml : c.maxLocals = 4) (hown : s.vm.findClass RL = some m.cls) (hts : ∀ w ∈ gt, w.before #[Value.ref b] s = true) (hK : oK G s) (hN : oN s) (hZ : oZ (fun q : Nat => s.heap.size ≤ q) s s.heap) (hX : va_X b L xs s s.heap) (hbl : b < s.heap.size) (hL : L ≤ 1536) (hi : i + 3 ≤ L) {k : MBk} {q : MMk} {Ω : Om} {H : Heap} {locs : List Loc} {ls : Array Slot} (hl : lv_has ls 4 [(0, .ref b), (1, .ref x), (2, .ref (x + 175)), (3, .int (nI i))]) (hMB : inMB G Ω x k) (hMM : inMM G Ω (x + 175) q) (hR : Rel k q) (hW : oW G (fun q : Nat => s.heap.size ≤ q) Ω H) (hS : va_S (fun q : Nat => s.heap.size ≤ q) s.heap H locs) (kk : ∀ (k : MBk) (q : MMk) (Ω : Om) (H : Heap) (locs : List Loc), inMB G Ω x k → inMM G Ω (x + 175) q → Rel k q → oW G (fun q : Nat => s.heap.size ≤ q) Ω H → va_S (fun q : Nat => s.heap.size ≤ q) s.heap H locs → W p l e room_1 s m #[Value.ref b] below meth c H locs 183 3303 Q (F0 m 766 ls [])) : W p l e room_1 s m #[Value.ref b] below meth c H locs 183 3303 Q (F0 m 407 ls []) := by
  have ok := rel_ok hR
  have hA : ∀ q : Nat, s.heap.size ≤ q → (fun q : Nat => s.heap.size ≤ q) q := fun _ h => h
  have hbA : ¬ (fun q : Nat => s.heap.size ≤ q) b := Nat.not_le.mpr hbl
  obtain ⟨fs8, h8⟩ := inMB_o hMB
  have ix1 : vp_in (nI i + 1) L := by rw [nI_1]; exact vp_in_nI (by omega) (by omega)
  have ix2 : vp_in (nI i + 2) L := by rw [nI_2]; exact vp_in_nI (by omega) (by omega)
  refine lv_aload_n hx hb d_law_407 rfl (lv_at hl 1 rfl) ?_
  refine lv_aload_n hx hb d_law_408 rfl (lv_at hl 0 rfl) ?_
  refine lv_iload_n hx hb d_law_409 rfl (lv_at hl 3 rfl) ?_
  refine lv_iconst (v := 1) hx hb d_law_410 (by decide) ?_
  refine lv_iadd hx hb d_law_411 ?_
  refine va_sld hx hb hX hbl hbA hS ix1 d_law_412 ?_
  refine lv_aload_n hx hb d_law_413 rfl (lv_at hl 0 rfl) ?_
  refine lv_iload_n hx hb d_law_414 rfl (lv_at hl 3 rfl) ?_
  refine lv_iconst (v := 2) hx hb d_law_415 (by decide) ?_
  refine lv_iadd hx hb d_law_416 ?_
  refine va_sld hx hb hX hbl hbA hS ix2 d_law_417 ?_
  refine o_Vi (rest := []) (As := [.int (xs (nI i + 1).toNatClampNeg), .int (xs (nI i + 2).toNatClampNeg)]) (n := 2) hx hb hml hown hts hK hN hZ hW hS hA (m_alias l G _ Ω x k (xs (nI i + 1).toNatClampNeg) (xs (nI i + 2).toNatClampNeg) hMB ok.1) h8 rfl (good_V ml_L_60 im_X8_alias se_X8_alias ini_X8 co_X8_alias) (by decide +kernel) ⟨Nat.le_of_ble_eq_true rfl, Nat.le_of_ble_eq_true rfl⟩ hl.1 (Nat.le_of_ble_eq_true rfl) rfl rfl d_law_418 (fun r Ω1 H locs hp hW hS => ?_)
  obtain ⟨hr1, hMB, hF⟩ := hp
  replace hMM : inMM G Ω1 (x + 175) q := hMM.keep (fun z h1 h2 => hF z (by omega))
  refine lv_aload_n hx hb d_law_421 rfl (lv_at hl 2 rfl) ?_
  refine lv_aload_n hx hb d_law_422 rfl (lv_at hl 0 rfl) ?_
  refine lv_iload_n hx hb d_law_423 rfl (lv_at hl 3 rfl) ?_
  refine lv_iconst (v := 1) hx hb d_law_424 (by decide) ?_
  refine lv_iadd hx hb d_law_425 ?_
  refine va_sld hx hb hX hbl hbA hS ix1 d_law_426 ?_
  refine lv_aload_n hx hb d_law_427 rfl (lv_at hl 0 rfl) ?_
  refine lv_iload_n hx hb d_law_428 rfl (lv_at hl 3 rfl) ?_
  refine lv_iconst (v := 2) hx hb d_law_429 (by decide) ?_
  refine lv_iadd hx hb d_law_430 ?_
  refine va_sld hx hb hX hbl hbA hS ix2 d_law_431 ?_
  refine o_Vi (rest := [.int r]) (As := [.int (xs (nI i + 1).toNatClampNeg), .int (xs (nI i + 2).toNatClampNeg)]) (n := 2) hx hb hml hown hts hK hN hZ hW hS hA (n_alias l G _ Ω1 (x + 175) q (xs (nI i + 1).toNatClampNeg) (xs (nI i + 2).toNatClampNeg) hMM ok.2) (inMod_o hMM) rfl (good_V ml_L_63 im_X9_alias se_X9_alias ini_X9 co_X9_alias) (by decide +kernel) ⟨Nat.le_of_ble_eq_true rfl, Nat.le_of_ble_eq_true rfl⟩ hl.1 (Nat.le_of_ble_eq_true rfl) rfl rfl d_law_432 (fun r2 Ω2 H locs hp hW hS => ?_)
  obtain ⟨hr2, hMM, hF⟩ := hp
  replace hMB := inMB.keep hMB (fun z h1 h2 => hF z (by omega))
  have hs := s_alias hR (xs (nI i + 1).toNatClampNeg) (xs (nI i + 2).toNatClampNeg)
  refine lv_icmp_eq (tgt := 766) hx hb d_law_435 (by decide) (fun _ => ?_) (fun c_ => absurd (by rw [hr1, hr2]; exact hs.1) c_)
  exact kk _ _ _ _ _ hMB hMM hs.2 hW hS
