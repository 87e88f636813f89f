/-! the law's cases, from its switch to its end of loop -/
set_option maxHeartbeats 4000000 in
set_option maxRecDepth 100000 in
theorem case_at {p : Program} {l : Launch} {e : Env} {s : State} {m : MethodId} {below : List Frame} {meth : Method} {c : Code} {b L i x : Nat} {xs : Nat → Int32} {G : Gm} {Q : State → Prop} (hx : p.tables.exec = Jvm.exec) (hb : c.code = code) (hml : c.maxLocals = 4) (hown : s.vm.findClass RL = some m.cls) (hts : ∀ w ∈ gt, w.before #[Value.ref b] s = true) (hK : oK G s) (hN : oN s) (hZ : oZ (fun q : Nat => s.heap.size ≤ q) s s.heap) (hX : va_X b L xs s s.heap) (hbl : b < s.heap.size) (hL : L ≤ 1536) (hi : i + 3 ≤ L) {k : MBk} {q : MMk} {Ω : Om} {H : Heap} {locs : List Loc} {ls : Array Slot} (hl : lv_has ls 4 [(0, .ref b), (1, .ref x), (2, .ref (x + 175)), (3, .int (nI i))]) (hMB : inMB G Ω x k) (hMM : inMM G Ω (x + 175) q) (hR : Rel k q) (hW : oW G (fun q : Nat => s.heap.size ≤ q) Ω H) (hS : va_S (fun q : Nat => s.heap.size ≤ q) s.heap H locs) (kk : ∀ (k : MBk) (q : MMk) (Ω : Om) (H : Heap) (locs : List Loc), inMB G Ω x k → inMM G Ω (x + 175) q → Rel k q → oW G (fun q : Nat => s.heap.size ≤ q) Ω H → va_S (fun q : Nat => s.heap.size ≤ q) s.heap H locs → W p l e room_1 s m #[Value.ref b] below meth c H locs 183 3303 Q (F0 m 766 ls [])) : W p l e room_1 s m #[Value.ref b] below meth c H locs 183 3303 Q (F0 m 440 ls []) := by
  have ok := rel_ok hR
  have hA : ∀ q : Nat, s.heap.size ≤ q → (fun q : Nat => s.heap.size ≤ q) q := fun _ h => h
  have hbA : ¬ (fun q : Nat => s.heap.size ≤ q) b := Nat.not_le.mpr hbl
  obtain ⟨fs8, h8⟩ := inMB_o hMB
  have ix1 : vp_in (nI i + 1) L := by rw [nI_1]; exact vp_in_nI (by omega) (by omega)
  refine lv_aload_n hx hb d_law_440 rfl (lv_at hl 1 rfl) ?_
  refine lv_aload_n hx hb d_law_441 rfl (lv_at hl 0 rfl) ?_
  refine lv_iload_n hx hb d_law_442 rfl (lv_at hl 3 rfl) ?_
  refine lv_iconst (v := 1) hx hb d_law_443 (by decide) ?_
  refine lv_iadd hx hb d_law_444 ?_
  refine va_sld hx hb hX hbl hbA hS ix1 d_law_445 ?_
  refine o_Vi (rest := []) (As := [.int (xs (nI i + 1).toNatClampNeg)]) (n := 1) hx hb hml hown hts hK hN hZ hW hS hA (m_at l G _ Ω x k (xs (nI i + 1).toNatClampNeg) hMB ok.1) h8 rfl (good_V ml_L_64 im_X8_at se_X8_at ini_X8 co_X8_at) (by decide +kernel) ⟨Nat.le_of_ble_eq_true rfl, Nat.le_of_ble_eq_true rfl⟩ hl.1 (Nat.le_of_ble_eq_true rfl) rfl rfl d_law_446 (fun r Ω1 H locs hp hW hS => ?_)
  obtain ⟨hr1, hMB, hF⟩ := hp
  replace hMM : inMM G Ω1 (x + 175) q := hMM.keep (fun z h1 h2 => hF z (by omega))
  refine lv_aload_n hx hb d_law_449 rfl (lv_at hl 2 rfl) ?_
  refine lv_aload_n hx hb d_law_450 rfl (lv_at hl 0 rfl) ?_
  refine lv_iload_n hx hb d_law_451 rfl (lv_at hl 3 rfl) ?_
  refine lv_iconst (v := 1) hx hb d_law_452 (by decide) ?_
  refine lv_iadd hx hb d_law_453 ?_
  refine va_sld hx hb hX hbl hbA hS ix1 d_law_454 ?_
  refine o_Vi (rest := [.int r]) (As := [.int (xs (nI i + 1).toNatClampNeg)]) (n := 1) hx hb hml hown hts hK hN hZ hW hS hA (n_at l G _ Ω1 (x + 175) q (xs (nI i + 1).toNatClampNeg) hMM ok.2) (inMod_o hMM) rfl (good_V ml_L_67 im_X9_at se_X9_at ini_X9 co_X9_at) (by decide +kernel) ⟨Nat.le_of_ble_eq_true rfl, Nat.le_of_ble_eq_true rfl⟩ hl.1 (Nat.le_of_ble_eq_true rfl) rfl rfl d_law_455 (fun r2 Ω2 H locs hp hW hS => ?_)
  obtain ⟨hr2, hMM, hF⟩ := hp
  replace hMB := inMB.keep hMB (fun z h1 h2 => hF z (by omega))
  have hs := s_at hR (xs (nI i + 1).toNatClampNeg)
  refine lv_icmp_eq (tgt := 766) hx hb d_law_458 (by decide) (fun _ => ?_) (fun c_ => absurd (by rw [hr1, hr2]; exact hs.1) c_)
  exact kk _ _ _ _ _ hMB hMM hs.2 hW hS
set_option maxHeartbeats 4000000 in
set_option maxRecDepth 100000 in
theorem case_peek {p : Program} {l : Launch} {e : Env} {s : State} {m : MethodId} {below : List Frame} {meth : Method} {c : Code} {b L i x : Nat} {xs : Nat → Int32} {G : Gm} {Q : State → Prop} (hx : p.tables.exec = Jvm.exec) (hb : c.code = code) (hml : c.maxLocals = 4) (hown : s.vm.findClass RL = some m.cls) (hts : ∀ w ∈ gt, w.before #[Value.ref b] s = true) (hK : oK G s) (hN : oN s) (hZ : oZ (fun q : Nat => s.heap.size ≤ q) s s.heap) (hX : va_X b L xs s s.heap) (hbl : b < s.heap.size) (hL : L ≤ 1536) (hi : i + 3 ≤ L) {k : MBk} {q : MMk} {Ω : Om} {H : Heap} {locs : List Loc} {ls : Array Slot} (hl : lv_has ls 4 [(0, .ref b), (1, .ref x), (2, .ref (x + 175)), (3, .int (nI i))]) (hMB : inMB G Ω x k) (hMM : inMM G Ω (x + 175) q) (hR : Rel k q) (hW : oW G (fun q : Nat => s.heap.size ≤ q) Ω H) (hS : va_S (fun q : Nat => s.heap.size ≤ q) s.heap H locs) (kk : ∀ (k : MBk) (q : MMk) (Ω : Om) (H : Heap) (locs : List Loc), inMB G Ω x k → inMM G Ω (x + 175) q → Rel k q → oW G (fun q : Nat => s.heap.size ≤ q) Ω H → va_S (fun q : Nat => s.heap.size ≤ q) s.heap H locs → W p l e room_1 s m #[Value.ref b] below meth c H locs 183 3303 Q (F0 m 766 ls [])) : W p l e room_1 s m #[Value.ref b] below meth c H locs 183 3303 Q (F0 m 463 ls []) := by
  have ok := rel_ok hR
  have hA : ∀ q : Nat, s.heap.size ≤ q → (fun q : Nat => s.heap.size ≤ q) q := fun _ h => h
  have hbA : ¬ (fun q : Nat => s.heap.size ≤ q) b := Nat.not_le.mpr hbl
  obtain ⟨fs8, h8⟩ := inMB_o hMB
  have ix1 : vp_in (nI i + 1) L := by rw [nI_1]; exact vp_in_nI (by omega) (by omega)
  have ix2 : vp_in (nI i + 2) L := by rw [nI_2]; exact vp_in_nI (by omega) (by omega)
  refine lv_aload_n hx hb d_law_463 rfl (lv_at hl 1 rfl) ?_
  refine lv_aload_n hx hb d_law_464 rfl (lv_at hl 0 rfl) ?_
  refine lv_iload_n hx hb d_law_465 rfl (lv_at hl 3 rfl) ?_
  refine lv_iconst (v := 1) hx hb d_law_466 (by decide) ?_
  refine lv_iadd hx hb d_law_467 ?_
  refine va_sld hx hb hX hbl hbA hS ix1 d_law_468 ?_
  refine lv_aload_n hx hb d_law_469 rfl (lv_at hl 0 rfl) ?_
  refine lv_iload_n hx hb d_law_470 rfl (lv_at hl 3 rfl) ?_
  refine lv_iconst (v := 2) hx hb d_law_471 (by decide) ?_
  refine lv_iadd hx hb d_law_472 ?_
  refine va_sld hx hb hX hbl hbA hS ix2 d_law_473 ?_
  refine o_Vi (rest := []) (As := [.int (xs (nI i + 1).toNatClampNeg), .int (xs (nI i + 2).toNatClampNeg)]) (n := 2) hx hb hml hown hts hK hN hZ hW hS hA (m_peek l G _ Ω x k (xs (nI i + 1).toNatClampNeg) (xs (nI i + 2).toNatClampNeg) hMB ok.1) h8 rfl (good_V ml_L_68 im_X8_peek se_X8_peek ini_X8 co_X8_peek) (by decide +kernel) ⟨Nat.le_of_ble_eq_true rfl, Nat.le_of_ble_eq_true rfl⟩ hl.1 (Nat.le_of_ble_eq_true rfl) rfl rfl d_law_474 (fun r Ω1 H locs hp hW hS => ?_)
  obtain ⟨hr1, hMB, hF⟩ := hp
  replace hMM : inMM G Ω1 (x + 175) q := hMM.keep (fun z h1 h2 => hF z (by omega))
  refine lv_aload_n hx hb d_law_477 rfl (lv_at hl 2 rfl) ?_
  refine lv_aload_n hx hb d_law_478 rfl (lv_at hl 0 rfl) ?_
  refine lv_iload_n hx hb d_law_479 rfl (lv_at hl 3 rfl) ?_
  refine lv_iconst (v := 1) hx hb d_law_480 (by decide) ?_
  refine lv_iadd hx hb d_law_481 ?_
  refine va_sld hx hb hX hbl hbA hS ix1 d_law_482 ?_
  refine lv_aload_n hx hb d_law_483 rfl (lv_at hl 0 rfl) ?_
  refine lv_iload_n hx hb d_law_484 rfl (lv_at hl 3 rfl) ?_
  refine lv_iconst (v := 2) hx hb d_law_485 (by decide) ?_
  refine lv_iadd hx hb d_law_486 ?_
  refine va_sld hx hb hX hbl hbA hS ix2 d_law_487 ?_
  refine o_Vi (rest := [.int r]) (As := [.int (xs (nI i + 1).toNatClampNeg), .int (xs (nI i + 2).toNatClampNeg)]) (n := 2) hx hb hml hown hts hK hN hZ hW hS hA (n_peek l G _ Ω1 (x + 175) q (xs (nI i + 1).toNatClampNeg) (xs (nI i + 2).toNatClampNeg) hMM ok.2) (inMod_o hMM) rfl (good_V ml_L_71 im_X9_peek se_X9_peek ini_X9 co_X9_peek) (by decide +kernel) ⟨Nat.le_of_ble_eq_true rfl, Nat.le_of_ble_eq_true rfl⟩ hl.1 (Nat.le_of_ble_eq_true rfl) rfl rfl d_law_488 (fun r2 Ω2 H locs hp hW hS => ?_)
  obtain ⟨hr2, hMM, hF⟩ := hp
  replace hMB := inMB.keep hMB (fun z h1 h2 => hF z (by omega))
  have hs := s_peek hR (xs (nI i + 1).toNatClampNeg) (xs (nI i + 2).toNatClampNeg)
  refine lv_icmp_eq (tgt := 766) hx hb d_law_491 (by decide) (fun _ => ?_) (fun c_ => absurd (by rw [hr1, hr2]; exact hs.1) c_)
  exact kk _ _ _ _ _ hMB hMM hs.2 hW hS
set_option maxHeartbeats 4000000 in
set_option maxRecDepth 100000 in
theorem case_differed {p : Program} {l : Launch} {e : Env} {s : State} {m : MethodId} {below : List Frame} {meth : Method} {c : Code} {b L i x : Nat} {xs : Nat → Int32} {G : Gm} {Q : State → Prop} (hx : p.tables.exec = Jvm.exec) (hb : c.code = code) (hml : c.maxLocals = 4) (hown : s.vm.findClass RL = some m.cls) (hts : ∀ w ∈ gt, w.before #[Value.ref b] s = true) (hK : oK G s) (hN : oN s) (hZ : oZ (fun q : Nat => s.heap.size ≤ q) s s.heap) (hX : va_X b L xs s s.heap) (hbl : b < s.heap.size) (hL : L ≤ 1536) (hi : i + 3 ≤ L) {k : MBk} {q : MMk} {Ω : Om} {H : Heap} {locs : List Loc} {ls : Array Slot} (hl : lv_has ls 4 [(0, .ref b), (1, .ref x), (2, .ref (x + 175)), (3, .int (nI i))]) (hMB : inMB G Ω x k) (hMM : inMM G Ω (x + 175) q) (hR : Rel k q) (hW : oW G (fun q : Nat => s.heap.size ≤ q) Ω H) (hS : va_S (fun q : Nat => s.heap.size ≤ q) s.heap H locs) (kk : ∀ (k : MBk) (q : MMk) (Ω : Om) (H : Heap) (locs : List Loc), inMB G Ω x k → inMM G Ω (x + 175) q → Rel k q → oW G (fun q : Nat => s.heap.size ≤ q) Ω H → va_S (fun q : Nat => s.heap.size ≤ q) s.heap H locs → W p l e room_1 s m #[Value.ref b] below meth c H locs 183 3303 Q (F0 m 766 ls [])) : W p l e room_1 s m #[Value.ref b] below meth c H locs 183 3303 Q (F0 m 496 ls []) := by
  have ok := rel_ok hR
  have hA : ∀ q : Nat, s.heap.size ≤ q → (fun q : Nat => s.heap.size ≤ q) q := fun _ h => h
  have hbA : ¬ (fun q : Nat => s.heap.size ≤ q) b := Nat.not_le.mpr hbl
  obtain ⟨fs8, h8⟩ := inMB_o hMB
  have ix1 : vp_in (nI i + 1) L := by rw [nI_1]; exact vp_in_nI (by omega) (by omega)
  refine lv_aload_n hx hb d_law_496 rfl (lv_at hl 1 rfl) ?_
  refine lv_aload_n hx hb d_law_497 rfl (lv_at hl 0 rfl) ?_
  refine lv_iload_n hx hb d_law_498 rfl (lv_at hl 3 rfl) ?_
  refine lv_iconst (v := 1) hx hb d_law_499 (by decide) ?_
  refine lv_iadd hx hb d_law_500 ?_
  refine va_sld hx hb hX hbl hbA hS ix1 d_law_501 ?_
  refine o_Vi (rest := []) (As := [.int (xs (nI i + 1).toNatClampNeg)]) (n := 1) hx hb hml hown hts hK hN hZ hW hS hA (m_differed l G _ Ω x k (xs (nI i + 1).toNatClampNeg) hMB ok.1) h8 rfl (good_V ml_L_72 im_X8_differed se_X8_differed ini_X8 co_X8_differed) (by decide +kernel) ⟨Nat.le_of_ble_eq_true rfl, Nat.le_of_ble_eq_true rfl⟩ hl.1 (Nat.le_of_ble_eq_true rfl) rfl rfl d_law_502 (fun r Ω1 H locs hp hW hS => ?_)
  obtain ⟨hr1, hMB, hF⟩ := hp
  replace hMM : inMM G Ω1 (x + 175) q := hMM.keep (fun z h1 h2 => hF z (by omega))
  refine lv_aload_n hx hb d_law_505 rfl (lv_at hl 2 rfl) ?_
  refine lv_aload_n hx hb d_law_506 rfl (lv_at hl 0 rfl) ?_
  refine lv_iload_n hx hb d_law_507 rfl (lv_at hl 3 rfl) ?_
  refine lv_iconst (v := 1) hx hb d_law_508 (by decide) ?_
  refine lv_iadd hx hb d_law_509 ?_
  refine va_sld hx hb hX hbl hbA hS ix1 d_law_510 ?_
  refine o_Vi (rest := [.int r]) (As := [.int (xs (nI i + 1).toNatClampNeg)]) (n := 1) hx hb hml hown hts hK hN hZ hW hS hA (n_differed l G _ Ω1 (x + 175) q (xs (nI i + 1).toNatClampNeg) hMM ok.2) (inMod_o hMM) rfl (good_V ml_L_75 im_X9_differed se_X9_differed ini_X9 co_X9_differed) (by decide +kernel) ⟨Nat.le_of_ble_eq_true rfl, Nat.le_of_ble_eq_true rfl⟩ hl.1 (Nat.le_of_ble_eq_true rfl) rfl rfl d_law_511 (fun r2 Ω2 H locs hp hW hS => ?_)
  obtain ⟨hr2, hMM, hF⟩ := hp
  replace hMB := inMB.keep hMB (fun z h1 h2 => hF z (by omega))
  have hs := s_differed hR (xs (nI i + 1).toNatClampNeg)
  refine lv_icmp_eq (tgt := 766) hx hb d_law_514 (by decide) (fun _ => ?_) (fun c_ => absurd (by rw [hr1, hr2]; exact hs.1) c_)
  exact kk _ _ _ _ _ hMB hMM hs.2 hW hS
set_option maxHeartbeats 4000000 in
set_option maxRecDepth 100000 in
theorem case_log {p : Program} {l : Launch} {e : Env} {s : State} {m : MethodId} {below : List Frame} {meth : Method} {c : Code} {b L i x : Nat} {xs : Nat → Int32} {G : Gm} {Q : State → Prop} (hx : p.tables.exec = Jvm.exec) (hb : c.code = code) (hml : c.maxLocals = 4) (hown : s.vm.findClass RL = some m.cls) (hts : ∀ w ∈ gt, w.before #[Value.ref b] s = true) (hK : oK G s) (hN : oN s) (hZ : oZ (fun q : Nat => s.heap.size ≤ q) s s.heap) (hX : va_X b L xs s s.heap) (hbl : b < s.heap.size) (hL : L ≤ 1536) (hi : i + 3 ≤ L) {k : MBk} {q : MMk} {Ω : Om} {H : Heap} {locs : List Loc} {ls : Array Slot} (hl : lv_has ls 4 [(0, .ref b), (1, .ref x), (2, .ref (x + 175)), (3, .int (nI i))]) (hMB : inMB G Ω x k) (hMM : inMM G Ω (x + 175) q) (hR : Rel k q) (hW : oW G (fun q : Nat => s.heap.size ≤ q) Ω H) (hS : va_S (fun q : Nat => s.heap.size ≤ q) s.heap H locs) (kk : ∀ (k : MBk) (q : MMk) (Ω : Om) (H : Heap) (locs : List Loc), inMB G Ω x k → inMM G Ω (x + 175) q → Rel k q → oW G (fun q : Nat => s.heap.size ≤ q) Ω H → va_S (fun q : Nat => s.heap.size ≤ q) s.heap H locs → W p l e room_1 s m #[Value.ref b] below meth c H locs 183 3303 Q (F0 m 766 ls [])) : W p l e room_1 s m #[Value.ref b] below meth c H locs 183 3303 Q (F0 m 519 ls []) := by
  have ok := rel_ok hR
  have hA : ∀ q : Nat, s.heap.size ≤ q → (fun q : Nat => s.heap.size ≤ q) q := fun _ h => h
  have hbA : ¬ (fun q : Nat => s.heap.size ≤ q) b := Nat.not_le.mpr hbl
  obtain ⟨fs8, h8⟩ := inMB_o hMB
  have ix1 : vp_in (nI i + 1) L := by rw [nI_1]; exact vp_in_nI (by omega) (by omega)
  have ix2 : vp_in (nI i + 2) L := by rw [nI_2]; exact vp_in_nI (by omega) (by omega)
  refine lv_aload_n hx hb d_law_519 rfl (lv_at hl 1 rfl) ?_
  refine lv_aload_n hx hb d_law_520 rfl (lv_at hl 0 rfl) ?_
  refine lv_iload_n hx hb d_law_521 rfl (lv_at hl 3 rfl) ?_
  refine lv_iconst (v := 1) hx hb d_law_522 (by decide) ?_
  refine lv_iadd hx hb d_law_523 ?_
  refine va_sld hx hb hX hbl hbA hS ix1 d_law_524 ?_
  refine lv_aload_n hx hb d_law_525 rfl (lv_at hl 0 rfl) ?_
  refine lv_iload_n hx hb d_law_526 rfl (lv_at hl 3 rfl) ?_
  refine lv_iconst (v := 2) hx hb d_law_527 (by decide) ?_
  refine lv_iadd hx hb d_law_528 ?_
  refine va_sld hx hb hX hbl hbA hS ix2 d_law_529 ?_
  refine o_Vi (rest := []) (As := [.int (xs (nI i + 1).toNatClampNeg), .int (xs (nI i + 2).toNatClampNeg)]) (n := 2) hx hb hml hown hts hK hN hZ hW hS hA (m_log l G _ Ω x k (xs (nI i + 1).toNatClampNeg) (xs (nI i + 2).toNatClampNeg) hMB ok.1) h8 rfl (good_V ml_L_76 im_X8_log se_X8_log ini_X8 co_X8_log) (by decide +kernel) ⟨Nat.le_of_ble_eq_true rfl, Nat.le_of_ble_eq_true rfl⟩ hl.1 (Nat.le_of_ble_eq_true rfl) rfl rfl d_law_530 (fun r Ω1 H locs hp hW hS => ?_)
  obtain ⟨hr1, hMB, hF⟩ := hp
  replace hMM : inMM G Ω1 (x + 175) q := hMM.keep (fun z h1 h2 => hF z (by omega))
  refine lv_aload_n hx hb d_law_533 rfl (lv_at hl 2 rfl) ?_
  refine lv_aload_n hx hb d_law_534 rfl (lv_at hl 0 rfl) ?_
  refine lv_iload_n hx hb d_law_535 rfl (lv_at hl 3 rfl) ?_
  refine lv_iconst (v := 1) hx hb d_law_536 (by decide) ?_
  refine lv_iadd hx hb d_law_537 ?_
  refine va_sld hx hb hX hbl hbA hS ix1 d_law_538 ?_
  refine lv_aload_n hx hb d_law_539 rfl (lv_at hl 0 rfl) ?_
  refine lv_iload_n hx hb d_law_540 rfl (lv_at hl 3 rfl) ?_
  refine lv_iconst (v := 2) hx hb d_law_541 (by decide) ?_
  refine lv_iadd hx hb d_law_542 ?_
  refine va_sld hx hb hX hbl hbA hS ix2 d_law_543 ?_
  refine o_Vi (rest := [.int r]) (As := [.int (xs (nI i + 1).toNatClampNeg), .int (xs (nI i + 2).toNatClampNeg)]) (n := 2) hx hb hml hown hts hK hN hZ hW hS hA (n_log l G _ Ω1 (x + 175) q (xs (nI i + 1).toNatClampNeg) (xs (nI i + 2).toNatClampNeg) hMM ok.2) (inMod_o hMM) rfl (good_V ml_L_79 im_X9_log se_X9_log ini_X9 co_X9_log) (by decide +kernel) ⟨Nat.le_of_ble_eq_true rfl, Nat.le_of_ble_eq_true rfl⟩ hl.1 (Nat.le_of_ble_eq_true rfl) rfl rfl d_law_544 (fun r2 Ω2 H locs hp hW hS => ?_)
  obtain ⟨hr2, hMM, hF⟩ := hp
  replace hMB := inMB.keep hMB (fun z h1 h2 => hF z (by omega))
  have hs := s_log hR (xs (nI i + 1).toNatClampNeg) (xs (nI i + 2).toNatClampNeg)
  refine lv_icmp_eq (tgt := 766) hx hb d_law_547 (by decide) (fun _ => ?_) (fun c_ => absurd (by rw [hr1, hr2]; exact hs.1) c_)
  exact kk _ _ _ _ _ hMB hMM hs.2 hW hS
set_option maxHeartbeats 4000000 in
set_option maxRecDepth 100000 in
theorem case_suspects {p : Program} {l : Launch} {e : Env} {s : State} {m : MethodId} {below : List Frame} {meth : Method} {c : Code} {b L i x : Nat} {xs : Nat → Int32} {G : Gm} {Q : State → Prop} (hx : p.tables.exec = Jvm.exec) (hb : c.code = code) (hml : c.maxLocals = 4) (hown : s.vm.findClass RL = some m.cls) (hts : ∀ w ∈ gt, w.before #[Value.ref b] s = true) (hK : oK G s) (hN : oN s) (hZ : oZ (fun q : Nat => s.heap.size ≤ q) s s.heap) (hX : va_X b L xs s s.heap) (hbl : b < s.heap.size) (hL : L ≤ 1536) (hi : i + 3 ≤ L) {k : MBk} {q : MMk} {Ω : Om} {H : Heap} {locs : List Loc} {ls : Array Slot} (hl : lv_has ls 4 [(0, .ref b), (1, .ref x), (2, .ref (x + 175)), (3, .int (nI i))]) (hMB : inMB G Ω x k) (hMM : inMM G Ω (x + 175) q) (hR : Rel k q) (hW : oW G (fun q : Nat => s.heap.size ≤ q) Ω H) (hS : va_S (fun q : Nat => s.heap.size ≤ q) s.heap H locs) (kk : ∀ (k : MBk) (q : MMk) (Ω : Om) (H : Heap) (locs : List Loc), inMB G Ω x k → inMM G Ω (x + 175) q → Rel k q → oW G (fun q : Nat => s.heap.size ≤ q) Ω H → va_S (fun q : Nat => s.heap.size ≤ q) s.heap H locs → W p l e room_1 s m #[Value.ref b] below meth c H locs 183 3303 Q (F0 m 766 ls [])) : W p l e room_1 s m #[Value.ref b] below meth c H locs 183 3303 Q (F0 m 552 ls []) := by
  have ok := rel_ok hR
  have hA : ∀ q : Nat, s.heap.size ≤ q → (fun q : Nat => s.heap.size ≤ q) q := fun _ h => h
  have hbA : ¬ (fun q : Nat => s.heap.size ≤ q) b := Nat.not_le.mpr hbl
  obtain ⟨fs8, h8⟩ := inMB_o hMB
  have ix1 : vp_in (nI i + 1) L := by rw [nI_1]; exact vp_in_nI (by omega) (by omega)
  refine lv_aload_n hx hb d_law_552 rfl (lv_at hl 1 rfl) ?_
  refine lv_aload_n hx hb d_law_553 rfl (lv_at hl 0 rfl) ?_
  refine lv_iload_n hx hb d_law_554 rfl (lv_at hl 3 rfl) ?_
  refine lv_iconst (v := 1) hx hb d_law_555 (by decide) ?_
  refine lv_iadd hx hb d_law_556 ?_
  refine va_sld hx hb hX hbl hbA hS ix1 d_law_557 ?_
  refine o_Vi (rest := []) (As := [.int (xs (nI i + 1).toNatClampNeg)]) (n := 1) hx hb hml hown hts hK hN hZ hW hS hA (m_suspects l G _ Ω x k (xs (nI i + 1).toNatClampNeg) hMB ok.1) h8 rfl (good_V ml_L_80 im_X8_suspects se_X8_suspects ini_X8 co_X8_suspects) (by decide +kernel) ⟨Nat.le_of_ble_eq_true rfl, Nat.le_of_ble_eq_true rfl⟩ hl.1 (Nat.le_of_ble_eq_true rfl) rfl rfl d_law_558 (fun r Ω1 H locs hp hW hS => ?_)
  obtain ⟨hr1, hMB, hF⟩ := hp
  replace hMM : inMM G Ω1 (x + 175) q := hMM.keep (fun z h1 h2 => hF z (by omega))
  refine lv_aload_n hx hb d_law_561 rfl (lv_at hl 2 rfl) ?_
  refine lv_aload_n hx hb d_law_562 rfl (lv_at hl 0 rfl) ?_
  refine lv_iload_n hx hb d_law_563 rfl (lv_at hl 3 rfl) ?_
  refine lv_iconst (v := 1) hx hb d_law_564 (by decide) ?_
  refine lv_iadd hx hb d_law_565 ?_
  refine va_sld hx hb hX hbl hbA hS ix1 d_law_566 ?_
  refine o_Vi (rest := [.int r]) (As := [.int (xs (nI i + 1).toNatClampNeg)]) (n := 1) hx hb hml hown hts hK hN hZ hW hS hA (n_suspects l G _ Ω1 (x + 175) q (xs (nI i + 1).toNatClampNeg) hMM ok.2) (inMod_o hMM) rfl (good_V ml_L_83 im_X9_suspects se_X9_suspects ini_X9 co_X9_suspects) (by decide +kernel) ⟨Nat.le_of_ble_eq_true rfl, Nat.le_of_ble_eq_true rfl⟩ hl.1 (Nat.le_of_ble_eq_true rfl) rfl rfl d_law_567 (fun r2 Ω2 H locs hp hW hS => ?_)
  obtain ⟨hr2, hMM, hF⟩ := hp
  replace hMB := inMB.keep hMB (fun z h1 h2 => hF z (by omega))
  have hs := s_suspects hR (xs (nI i + 1).toNatClampNeg)
  refine lv_icmp_eq (tgt := 766) hx hb d_law_570 (by decide) (fun _ => ?_) (fun c_ => absurd (by rw [hr1, hr2]; exact hs.1) c_)
  exact kk _ _ _ _ _ hMB hMM hs.2 hW hS
set_option maxHeartbeats 4000000 in
set_option maxRecDepth 100000 in
theorem case_clashes {p : Program} {l : Launch} {e : Env} {s : State} {m : MethodId} {below : List Frame} {meth : Method} {c : Code} {b L i x : Nat} {xs : Nat → Int32} {G : Gm} {Q : State → Prop} (hx : p.tables.exec = Jvm.exec) (hb : c.code = code) (hml : c.maxLocals = 4) (hown : s.vm.findClass RL = some m.cls) (hts : ∀ w ∈ gt, w.before #[Value.ref b] s = true) (hK : oK G s) (hN : oN s) (hZ : oZ (fun q : Nat => s.heap.size ≤ q) s s.heap) (hX : va_X b L xs s s.heap) (hbl : b < s.heap.size) (hL : L ≤ 1536) (hi : i + 3 ≤ L) {k : MBk} {q : MMk} {Ω : Om} {H : Heap} {locs : List Loc} {ls : Array Slot} (hl : lv_has ls 4 [(0, .ref b), (1, .ref x), (2, .ref (x + 175)), (3, .int (nI i))]) (hMB : inMB G Ω x k) (hMM : inMM G Ω (x + 175) q) (hR : Rel k q) (hW : oW G (fun q : Nat => s.heap.size ≤ q) Ω H) (hS : va_S (fun q : Nat => s.heap.size ≤ q) s.heap H locs) (kk : ∀ (k : MBk) (q : MMk) (Ω : Om) (H : Heap) (locs : List Loc), inMB G Ω x k → inMM G Ω (x + 175) q → Rel k q → oW G (fun q : Nat => s.heap.size ≤ q) Ω H → va_S (fun q : Nat => s.heap.size ≤ q) s.heap H locs → W p l e room_1 s m #[Value.ref b] below meth c H locs 183 3303 Q (F0 m 766 ls [])) : W p l e room_1 s m #[Value.ref b] below meth c H locs 183 3303 Q (F0 m 575 ls []) := by
  have ok := rel_ok hR
  have hA : ∀ q : Nat, s.heap.size ≤ q → (fun q : Nat => s.heap.size ≤ q) q := fun _ h => h
  have hbA : ¬ (fun q : Nat => s.heap.size ≤ q) b := Nat.not_le.mpr hbl
  obtain ⟨fs8, h8⟩ := inMB_o hMB
  have ix1 : vp_in (nI i + 1) L := by rw [nI_1]; exact vp_in_nI (by omega) (by omega)
  refine lv_aload_n hx hb d_law_575 rfl (lv_at hl 1 rfl) ?_
  refine lv_aload_n hx hb d_law_576 rfl (lv_at hl 0 rfl) ?_
  refine lv_iload_n hx hb d_law_577 rfl (lv_at hl 3 rfl) ?_
  refine lv_iconst (v := 1) hx hb d_law_578 (by decide) ?_
  refine lv_iadd hx hb d_law_579 ?_
  refine va_sld hx hb hX hbl hbA hS ix1 d_law_580 ?_
  refine o_Vi (rest := []) (As := [.int (xs (nI i + 1).toNatClampNeg)]) (n := 1) hx hb hml hown hts hK hN hZ hW hS hA (m_clashes l G _ Ω x k (xs (nI i + 1).toNatClampNeg) hMB ok.1) h8 rfl (good_V ml_L_84 im_X8_clashes se_X8_clashes ini_X8 co_X8_clashes) (by decide +kernel) ⟨Nat.le_of_ble_eq_true rfl, Nat.le_of_ble_eq_true rfl⟩ hl.1 (Nat.le_of_ble_eq_true rfl) rfl rfl d_law_581 (fun r Ω1 H locs hp hW hS => ?_)
  obtain ⟨hr1, hMB, hF⟩ := hp
  replace hMM : inMM G Ω1 (x + 175) q := hMM.keep (fun z h1 h2 => hF z (by omega))
  refine lv_aload_n hx hb d_law_584 rfl (lv_at hl 2 rfl) ?_
  refine lv_aload_n hx hb d_law_585 rfl (lv_at hl 0 rfl) ?_
  refine lv_iload_n hx hb d_law_586 rfl (lv_at hl 3 rfl) ?_
  refine lv_iconst (v := 1) hx hb d_law_587 (by decide) ?_
  refine lv_iadd hx hb d_law_588 ?_
  refine va_sld hx hb hX hbl hbA hS ix1 d_law_589 ?_
  refine o_Vi (rest := [.int r]) (As := [.int (xs (nI i + 1).toNatClampNeg)]) (n := 1) hx hb hml hown hts hK hN hZ hW hS hA (n_clashes l G _ Ω1 (x + 175) q (xs (nI i + 1).toNatClampNeg) hMM ok.2) (inMod_o hMM) rfl (good_V ml_L_87 im_X9_clashes se_X9_clashes ini_X9 co_X9_clashes) (by decide +kernel) ⟨Nat.le_of_ble_eq_true rfl, Nat.le_of_ble_eq_true rfl⟩ hl.1 (Nat.le_of_ble_eq_true rfl) rfl rfl d_law_590 (fun r2 Ω2 H locs hp hW hS => ?_)
  obtain ⟨hr2, hMM, hF⟩ := hp
  replace hMB := inMB.keep hMB (fun z h1 h2 => hF z (by omega))
  have hs := s_clashes hR (xs (nI i + 1).toNatClampNeg)
  refine lv_icmp_eq (tgt := 766) hx hb d_law_593 (by decide) (fun _ => ?_) (fun c_ => absurd (by rw [hr1, hr2]; exact hs.1) c_)
  exact kk _ _ _ _ _ hMB hMM hs.2 hW hS
