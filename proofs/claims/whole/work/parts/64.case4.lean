/-! the law's cases, from its switch to its end of loop -/
set_option maxHeartbeats 4000000 in
set_option maxRecDepth 100000 in
theorem case_touched {p : Program} {l : Launch} {e : Env} {s : State} {m : MethodId} {below : List Frame} {meth : Method} {c : Code} {b L i x : Nat} {xs : Nat → Int32} {G : Gm} {Q : State → Prop} (hx : p.tables.exec = Jvm.exec) (hb : c.code = code) (hml : c.maxLocals = 4) (hown : s.vm.findClass RL = some m.cls) (hts : ∀ w ∈ gt, w.before #[Value.ref b] s = true) (hK : oK G s) (hN : oN s) (hZ : oZ (fun q : Nat => s.heap.size ≤ q) s s.heap) (hX : va_X b L xs s s.heap) (hbl : b < s.heap.size) (hL : L ≤ 1536) (hi : i + 3 ≤ L) {k : MBk} {q : MMk} {Ω : Om} {H : Heap} {locs : List Loc} {ls : Array Slot} (hl : lv_has ls 4 [(0, .ref b), (1, .ref x), (2, .ref (x + 175)), (3, .int (nI i))]) (hMB : inMB G Ω x k) (hMM : inMM G Ω (x + 175) q) (hR : Rel k q) (hW : oW G (fun q : Nat => s.heap.size ≤ q) Ω H) (hS : va_S (fun q : Nat => s.heap.size ≤ q) s.heap H locs) (kk : ∀ (k : MBk) (q : MMk) (Ω : Om) (H : Heap) (locs : List Loc), inMB G Ω x k → inMM G Ω (x + 175) q → Rel k q → oW G (fun q : Nat => s.heap.size ≤ q) Ω H → va_S (fun q : Nat => s.heap.size ≤ q) s.heap H locs → W p l e room_1 s m #[Value.ref b] below meth c H locs 183 3303 Q (F0 m 766 ls [])) : W p l e room_1 s m #[Value.ref b] below meth c H locs 183 3303 Q (F0 m 598 ls []) := by
  have ok := rel_ok hR
  have hA : ∀ q : Nat, s.heap.size ≤ q → (fun q : Nat => s.heap.size ≤ q) q := fun _ h => h
  have hbA : ¬ (fun q : Nat => s.heap.size ≤ q) b := Nat.not_le.mpr hbl
  obtain ⟨fs8, h8⟩ := inMB_o hMB
  have ix1 : vp_in (nI i + 1) L := by rw [nI_1]; exact vp_in_nI (by omega) (by omega)
  have ix2 : vp_in (nI i + 2) L := by rw [nI_2]; exact vp_in_nI (by omega) (by omega)
  refine lv_aload_n hx hb d_law_598 rfl (lv_at hl 1 rfl) ?_
  refine lv_aload_n hx hb d_law_599 rfl (lv_at hl 0 rfl) ?_
  refine lv_iload_n hx hb d_law_600 rfl (lv_at hl 3 rfl) ?_
  refine lv_iconst (v := 1) hx hb d_law_601 (by decide) ?_
  refine lv_iadd hx hb d_law_602 ?_
  refine va_sld hx hb hX hbl hbA hS ix1 d_law_603 ?_
  refine lv_aload_n hx hb d_law_604 rfl (lv_at hl 0 rfl) ?_
  refine lv_iload_n hx hb d_law_605 rfl (lv_at hl 3 rfl) ?_
  refine lv_iconst (v := 2) hx hb d_law_606 (by decide) ?_
  refine lv_iadd hx hb d_law_607 ?_
  refine va_sld hx hb hX hbl hbA hS ix2 d_law_608 ?_
  refine o_Vi (rest := []) (As := [.int (xs (nI i + 1).toNatClampNeg), .int (xs (nI i + 2).toNatClampNeg)]) (n := 2) hx hb hml hown hts hK hN hZ hW hS hA (m_touched l G _ Ω x k (xs (nI i + 1).toNatClampNeg) (xs (nI i + 2).toNatClampNeg) hMB ok.1) h8 rfl (good_V ml_L_88 im_X8_touched se_X8_touched ini_X8 co_X8_touched) (by decide +kernel) ⟨Nat.le_of_ble_eq_true rfl, Nat.le_of_ble_eq_true rfl⟩ hl.1 (Nat.le_of_ble_eq_true rfl) rfl rfl d_law_609 (fun r Ω1 H locs hp hW hS => ?_)
  obtain ⟨hr1, hMB, hF⟩ := hp
  replace hMM : inMM G Ω1 (x + 175) q := hMM.keep (fun z h1 h2 => hF z (by omega))
  refine lv_aload_n hx hb d_law_612 rfl (lv_at hl 2 rfl) ?_
  refine lv_aload_n hx hb d_law_613 rfl (lv_at hl 0 rfl) ?_
  refine lv_iload_n hx hb d_law_614 rfl (lv_at hl 3 rfl) ?_
  refine lv_iconst (v := 1) hx hb d_law_615 (by decide) ?_
  refine lv_iadd hx hb d_law_616 ?_
  refine va_sld hx hb hX hbl hbA hS ix1 d_law_617 ?_
  refine lv_aload_n hx hb d_law_618 rfl (lv_at hl 0 rfl) ?_
  refine lv_iload_n hx hb d_law_619 rfl (lv_at hl 3 rfl) ?_
  refine lv_iconst (v := 2) hx hb d_law_620 (by decide) ?_
  refine lv_iadd hx hb d_law_621 ?_
  refine va_sld hx hb hX hbl hbA hS ix2 d_law_622 ?_
  refine o_Vi (rest := [.int r]) (As := [.int (xs (nI i + 1).toNatClampNeg), .int (xs (nI i + 2).toNatClampNeg)]) (n := 2) hx hb hml hown hts hK hN hZ hW hS hA (n_touched l G _ Ω1 (x + 175) q (xs (nI i + 1).toNatClampNeg) (xs (nI i + 2).toNatClampNeg) hMM ok.2) (inMod_o hMM) rfl (good_V ml_L_91 im_X9_touched se_X9_touched ini_X9 co_X9_touched) (by decide +kernel) ⟨Nat.le_of_ble_eq_true rfl, Nat.le_of_ble_eq_true rfl⟩ hl.1 (Nat.le_of_ble_eq_true rfl) rfl rfl d_law_623 (fun r2 Ω2 H locs hp hW hS => ?_)
  obtain ⟨hr2, hMM, hF⟩ := hp
  replace hMB := inMB.keep hMB (fun z h1 h2 => hF z (by omega))
  have hs := s_touched hR (xs (nI i + 1).toNatClampNeg) (xs (nI i + 2).toNatClampNeg)
  refine lv_icmp_eq (tgt := 766) hx hb d_law_626 (by decide) (fun _ => ?_) (fun c_ => absurd (by rw [hr1, hr2]; exact hs.1) c_)
  exact kk _ _ _ _ _ hMB hMM hs.2 hW hS
set_option maxHeartbeats 4000000 in
set_option maxRecDepth 100000 in
theorem case_way {p : Program} {l : Launch} {e : Env} {s : State} {m : MethodId} {below : List Frame} {meth : Method} {c : Code} {b L i x : Nat} {xs : Nat → Int32} {G : Gm} {Q : State → Prop} (hx : p.tables.exec = Jvm.exec) (hb : c.code = code) (hml : c.maxLocals = 4) (hown : s.vm.findClass RL = some m.cls) (hts : ∀ w ∈ gt, w.before #[Value.ref b] s = true) (hK : oK G s) (hN : oN s) (hZ : oZ (fun q : Nat => s.heap.size ≤ q) s s.heap) (hX : va_X b L xs s s.heap) (hbl : b < s.heap.size) (hL : L ≤ 1536) (hi : i + 3 ≤ L) {k : MBk} {q : MMk} {Ω : Om} {H : Heap} {locs : List Loc} {ls : Array Slot} (hl : lv_has ls 4 [(0, .ref b), (1, .ref x), (2, .ref (x + 175)), (3, .int (nI i))]) (hMB : inMB G Ω x k) (hMM : inMM G Ω (x + 175) q) (hR : Rel k q) (hW : oW G (fun q : Nat => s.heap.size ≤ q) Ω H) (hS : va_S (fun q : Nat => s.heap.size ≤ q) s.heap H locs) (kk : ∀ (k : MBk) (q : MMk) (Ω : Om) (H : Heap) (locs : List Loc), inMB G Ω x k → inMM G Ω (x + 175) q → Rel k q → oW G (fun q : Nat => s.heap.size ≤ q) Ω H → va_S (fun q : Nat => s.heap.size ≤ q) s.heap H locs → W p l e room_1 s m #[Value.ref b] below meth c H locs 183 3303 Q (F0 m 766 ls [])) : W p l e room_1 s m #[Value.ref b] below meth c H locs 183 3303 Q (F0 m 631 ls []) := by
  have ok := rel_ok hR
  have hA : ∀ q : Nat, s.heap.size ≤ q → (fun q : Nat => s.heap.size ≤ q) q := fun _ h => h
  have hbA : ¬ (fun q : Nat => s.heap.size ≤ q) b := Nat.not_le.mpr hbl
  obtain ⟨fs8, h8⟩ := inMB_o hMB
  have ix1 : vp_in (nI i + 1) L := by rw [nI_1]; exact vp_in_nI (by omega) (by omega)
  have ix2 : vp_in (nI i + 2) L := by rw [nI_2]; exact vp_in_nI (by omega) (by omega)
  refine lv_aload_n hx hb d_law_631 rfl (lv_at hl 1 rfl) ?_
  refine lv_aload_n hx hb d_law_632 rfl (lv_at hl 0 rfl) ?_
  refine lv_iload_n hx hb d_law_633 rfl (lv_at hl 3 rfl) ?_
  refine lv_iconst (v := 1) hx hb d_law_634 (by decide) ?_
  refine lv_iadd hx hb d_law_635 ?_
  refine va_sld hx hb hX hbl hbA hS ix1 d_law_636 ?_
  refine lv_aload_n hx hb d_law_637 rfl (lv_at hl 0 rfl) ?_
  refine lv_iload_n hx hb d_law_638 rfl (lv_at hl 3 rfl) ?_
  refine lv_iconst (v := 2) hx hb d_law_639 (by decide) ?_
  refine lv_iadd hx hb d_law_640 ?_
  refine va_sld hx hb hX hbl hbA hS ix2 d_law_641 ?_
  refine o_Vi (rest := []) (As := [.int (xs (nI i + 1).toNatClampNeg), .int (xs (nI i + 2).toNatClampNeg)]) (n := 2) hx hb hml hown hts hK hN hZ hW hS hA (m_way l G _ Ω x k (xs (nI i + 1).toNatClampNeg) (xs (nI i + 2).toNatClampNeg) hMB ok.1) h8 rfl (good_V ml_L_92 im_X8_way se_X8_way ini_X8 co_X8_way) (by decide +kernel) ⟨Nat.le_of_ble_eq_true rfl, Nat.le_of_ble_eq_true rfl⟩ hl.1 (Nat.le_of_ble_eq_true rfl) rfl rfl d_law_642 (fun r Ω1 H locs hp hW hS => ?_)
  obtain ⟨hr1, hMB, hF⟩ := hp
  replace hMM : inMM G Ω1 (x + 175) q := hMM.keep (fun z h1 h2 => hF z (by omega))
  refine lv_aload_n hx hb d_law_645 rfl (lv_at hl 2 rfl) ?_
  refine lv_aload_n hx hb d_law_646 rfl (lv_at hl 0 rfl) ?_
  refine lv_iload_n hx hb d_law_647 rfl (lv_at hl 3 rfl) ?_
  refine lv_iconst (v := 1) hx hb d_law_648 (by decide) ?_
  refine lv_iadd hx hb d_law_649 ?_
  refine va_sld hx hb hX hbl hbA hS ix1 d_law_650 ?_
  refine lv_aload_n hx hb d_law_651 rfl (lv_at hl 0 rfl) ?_
  refine lv_iload_n hx hb d_law_652 rfl (lv_at hl 3 rfl) ?_
  refine lv_iconst (v := 2) hx hb d_law_653 (by decide) ?_
  refine lv_iadd hx hb d_law_654 ?_
  refine va_sld hx hb hX hbl hbA hS ix2 d_law_655 ?_
  refine o_Vi (rest := [.int r]) (As := [.int (xs (nI i + 1).toNatClampNeg), .int (xs (nI i + 2).toNatClampNeg)]) (n := 2) hx hb hml hown hts hK hN hZ hW hS hA (n_way l G _ Ω1 (x + 175) q (xs (nI i + 1).toNatClampNeg) (xs (nI i + 2).toNatClampNeg) hMM ok.2) (inMod_o hMM) rfl (good_V ml_L_95 im_X9_way se_X9_way ini_X9 co_X9_way) (by decide +kernel) ⟨Nat.le_of_ble_eq_true rfl, Nat.le_of_ble_eq_true rfl⟩ hl.1 (Nat.le_of_ble_eq_true rfl) rfl rfl d_law_656 (fun r2 Ω2 H locs hp hW hS => ?_)
  obtain ⟨hr2, hMM, hF⟩ := hp
  replace hMB := inMB.keep hMB (fun z h1 h2 => hF z (by omega))
  have hs := s_way hR (xs (nI i + 1).toNatClampNeg) (xs (nI i + 2).toNatClampNeg)
  refine lv_icmp_eq (tgt := 766) hx hb d_law_659 (by decide) (fun _ => ?_) (fun c_ => absurd (by rw [hr1, hr2]; exact hs.1) c_)
  exact kk _ _ _ _ _ hMB hMM hs.2 hW hS
set_option maxHeartbeats 4000000 in
set_option maxRecDepth 100000 in
theorem case_walk {p : Program} {l : Launch} {e : Env} {s : State} {m : MethodId} {below : List Frame} {meth : Method} {c : Code} {b L i x : Nat} {xs : Nat → Int32} {G : Gm} {Q : State → Prop} (hx : p.tables.exec = Jvm.exec) (hb : c.code = code) (hml : c.maxLocals = 4) (hown : s.vm.findClass RL = some m.cls) (hts : ∀ w ∈ gt, w.before #[Value.ref b] s = true) (hK : oK G s) (hN : oN s) (hZ : oZ (fun q : Nat => s.heap.size ≤ q) s s.heap) (hX : va_X b L xs s s.heap) (hbl : b < s.heap.size) (hL : L ≤ 1536) (hi : i + 3 ≤ L) {k : MBk} {q : MMk} {Ω : Om} {H : Heap} {locs : List Loc} {ls : Array Slot} (hl : lv_has ls 4 [(0, .ref b), (1, .ref x), (2, .ref (x + 175)), (3, .int (nI i))]) (hMB : inMB G Ω x k) (hMM : inMM G Ω (x + 175) q) (hR : Rel k q) (hW : oW G (fun q : Nat => s.heap.size ≤ q) Ω H) (hS : va_S (fun q : Nat => s.heap.size ≤ q) s.heap H locs) (kk : ∀ (k : MBk) (q : MMk) (Ω : Om) (H : Heap) (locs : List Loc), inMB G Ω x k → inMM G Ω (x + 175) q → Rel k q → oW G (fun q : Nat => s.heap.size ≤ q) Ω H → va_S (fun q : Nat => s.heap.size ≤ q) s.heap H locs → W p l e room_1 s m #[Value.ref b] below meth c H locs 183 3303 Q (F0 m 766 ls [])) : W p l e room_1 s m #[Value.ref b] below meth c H locs 183 3303 Q (F0 m 664 ls []) := by
  have ok := rel_ok hR
  have hA : ∀ q : Nat, s.heap.size ≤ q → (fun q : Nat => s.heap.size ≤ q) q := fun _ h => h
  have hbA : ¬ (fun q : Nat => s.heap.size ≤ q) b := Nat.not_le.mpr hbl
  obtain ⟨fs8, h8⟩ := inMB_o hMB
  have ix1 : vp_in (nI i + 1) L := by rw [nI_1]; exact vp_in_nI (by omega) (by omega)
  have ix2 : vp_in (nI i + 2) L := by rw [nI_2]; exact vp_in_nI (by omega) (by omega)
  refine lv_aload_n hx hb d_law_664 rfl (lv_at hl 1 rfl) ?_
  refine lv_aload_n hx hb d_law_665 rfl (lv_at hl 0 rfl) ?_
  refine lv_iload_n hx hb d_law_666 rfl (lv_at hl 3 rfl) ?_
  refine lv_iconst (v := 1) hx hb d_law_667 (by decide) ?_
  refine lv_iadd hx hb d_law_668 ?_
  refine va_sld hx hb hX hbl hbA hS ix1 d_law_669 ?_
  refine lv_aload_n hx hb d_law_670 rfl (lv_at hl 0 rfl) ?_
  refine lv_iload_n hx hb d_law_671 rfl (lv_at hl 3 rfl) ?_
  refine lv_iconst (v := 2) hx hb d_law_672 (by decide) ?_
  refine lv_iadd hx hb d_law_673 ?_
  refine va_sld hx hb hX hbl hbA hS ix2 d_law_674 ?_
  refine o_Vi (rest := []) (As := [.int (xs (nI i + 1).toNatClampNeg), .int (xs (nI i + 2).toNatClampNeg)]) (n := 2) hx hb hml hown hts hK hN hZ hW hS hA (m_walk l G _ Ω x k (xs (nI i + 1).toNatClampNeg) (xs (nI i + 2).toNatClampNeg) hMB ok.1) h8 rfl (good_V ml_L_96 im_X8_walk se_X8_walk ini_X8 co_X8_walk) (by decide +kernel) ⟨Nat.le_of_ble_eq_true rfl, Nat.le_of_ble_eq_true rfl⟩ hl.1 (Nat.le_of_ble_eq_true rfl) rfl rfl d_law_675 (fun r Ω1 H locs hp hW hS => ?_)
  obtain ⟨hr1, hMB, hF⟩ := hp
  replace hMM : inMM G Ω1 (x + 175) q := hMM.keep (fun z h1 h2 => hF z (by omega))
  refine lv_aload_n hx hb d_law_678 rfl (lv_at hl 2 rfl) ?_
  refine lv_aload_n hx hb d_law_679 rfl (lv_at hl 0 rfl) ?_
  refine lv_iload_n hx hb d_law_680 rfl (lv_at hl 3 rfl) ?_
  refine lv_iconst (v := 1) hx hb d_law_681 (by decide) ?_
  refine lv_iadd hx hb d_law_682 ?_
  refine va_sld hx hb hX hbl hbA hS ix1 d_law_683 ?_
  refine lv_aload_n hx hb d_law_684 rfl (lv_at hl 0 rfl) ?_
  refine lv_iload_n hx hb d_law_685 rfl (lv_at hl 3 rfl) ?_
  refine lv_iconst (v := 2) hx hb d_law_686 (by decide) ?_
  refine lv_iadd hx hb d_law_687 ?_
  refine va_sld hx hb hX hbl hbA hS ix2 d_law_688 ?_
  refine o_Vi (rest := [.int r]) (As := [.int (xs (nI i + 1).toNatClampNeg), .int (xs (nI i + 2).toNatClampNeg)]) (n := 2) hx hb hml hown hts hK hN hZ hW hS hA (n_walk l G _ Ω1 (x + 175) q (xs (nI i + 1).toNatClampNeg) (xs (nI i + 2).toNatClampNeg) hMM ok.2) (inMod_o hMM) rfl (good_V ml_L_99 im_X9_walk se_X9_walk ini_X9 co_X9_walk) (by decide +kernel) ⟨Nat.le_of_ble_eq_true rfl, Nat.le_of_ble_eq_true rfl⟩ hl.1 (Nat.le_of_ble_eq_true rfl) rfl rfl d_law_689 (fun r2 Ω2 H locs hp hW hS => ?_)
  obtain ⟨hr2, hMM, hF⟩ := hp
  replace hMB := inMB.keep hMB (fun z h1 h2 => hF z (by omega))
  have hs := s_walk hR (xs (nI i + 1).toNatClampNeg) (xs (nI i + 2).toNatClampNeg)
  refine lv_icmp_eq (tgt := 766) hx hb d_law_692 (by decide) (fun _ => ?_) (fun c_ => absurd (by rw [hr1, hr2]; exact hs.1) c_)
  exact kk _ _ _ _ _ hMB hMM hs.2 hW hS
set_option maxHeartbeats 4000000 in
set_option maxRecDepth 100000 in
theorem case_keep {p : Program} {l : Launch} {e : Env} {s : State} {m : MethodId} {below : List Frame} {meth : Method} {c : Code} {b L i x : Nat} {xs : Nat → Int32} {G : Gm} {Q : State → Prop} (hx : p.tables.exec = Jvm.exec) (hb : c.code = code) (hml : c.maxLocals = 4) (hown : s.vm.findClass RL = some m.cls) (hts : ∀ w ∈ gt, w.before #[Value.ref b] s = true) (hK : oK G s) (hN : oN s) (hZ : oZ (fun q : Nat => s.heap.size ≤ q) s s.heap) (hX : va_X b L xs s s.heap) (hbl : b < s.heap.size) (hL : L ≤ 1536) (hi : i + 3 ≤ L) {k : MBk} {q : MMk} {Ω : Om} {H : Heap} {locs : List Loc} {ls : Array Slot} (hl : lv_has ls 4 [(0, .ref b), (1, .ref x), (2, .ref (x + 175)), (3, .int (nI i))]) (hMB : inMB G Ω x k) (hMM : inMM G Ω (x + 175) q) (hR : Rel k q) (hW : oW G (fun q : Nat => s.heap.size ≤ q) Ω H) (hS : va_S (fun q : Nat => s.heap.size ≤ q) s.heap H locs) (kk : ∀ (k : MBk) (q : MMk) (Ω : Om) (H : Heap) (locs : List Loc), inMB G Ω x k → inMM G Ω (x + 175) q → Rel k q → oW G (fun q : Nat => s.heap.size ≤ q) Ω H → va_S (fun q : Nat => s.heap.size ≤ q) s.heap H locs → W p l e room_1 s m #[Value.ref b] below meth c H locs 183 3303 Q (F0 m 766 ls [])) : W p l e room_1 s m #[Value.ref b] below meth c H locs 183 3303 Q (F0 m 697 ls []) := by
  have ok := rel_ok hR
  have hA : ∀ q : Nat, s.heap.size ≤ q → (fun q : Nat => s.heap.size ≤ q) q := fun _ h => h
  have hbA : ¬ (fun q : Nat => s.heap.size ≤ q) b := Nat.not_le.mpr hbl
  obtain ⟨fs8, h8⟩ := inMB_o hMB
  have ix1 : vp_in (nI i + 1) L := by rw [nI_1]; exact vp_in_nI (by omega) (by omega)
  refine lv_aload_n hx hb d_law_697 rfl (lv_at hl 1 rfl) ?_
  refine lv_aload_n hx hb d_law_698 rfl (lv_at hl 0 rfl) ?_
  refine lv_iload_n hx hb d_law_699 rfl (lv_at hl 3 rfl) ?_
  refine lv_iconst (v := 1) hx hb d_law_700 (by decide) ?_
  refine lv_iadd hx hb d_law_701 ?_
  refine va_sld hx hb hX hbl hbA hS ix1 d_law_702 ?_
  refine o_Vi (rest := []) (As := [.int (xs (nI i + 1).toNatClampNeg)]) (n := 1) hx hb hml hown hts hK hN hZ hW hS hA (m_keep l G _ Ω x k (xs (nI i + 1).toNatClampNeg) hMB ok.1) h8 rfl (good_V ml_L_100 im_X8_keep se_X8_keep ini_X8 co_X8_keep) (by decide +kernel) ⟨Nat.le_of_ble_eq_true rfl, Nat.le_of_ble_eq_true rfl⟩ hl.1 (Nat.le_of_ble_eq_true rfl) rfl rfl d_law_703 (fun r Ω1 H locs hp hW hS => ?_)
  obtain ⟨hr1, hMB, hF⟩ := hp
  replace hMM : inMM G Ω1 (x + 175) q := hMM.keep (fun z h1 h2 => hF z (by omega))
  refine lv_aload_n hx hb d_law_706 rfl (lv_at hl 2 rfl) ?_
  refine lv_aload_n hx hb d_law_707 rfl (lv_at hl 0 rfl) ?_
  refine lv_iload_n hx hb d_law_708 rfl (lv_at hl 3 rfl) ?_
  refine lv_iconst (v := 1) hx hb d_law_709 (by decide) ?_
  refine lv_iadd hx hb d_law_710 ?_
  refine va_sld hx hb hX hbl hbA hS ix1 d_law_711 ?_
  refine o_Vi (rest := [.int r]) (As := [.int (xs (nI i + 1).toNatClampNeg)]) (n := 1) hx hb hml hown hts hK hN hZ hW hS hA (n_keep l G _ Ω1 (x + 175) q (xs (nI i + 1).toNatClampNeg) hMM ok.2) (inMod_o hMM) rfl (good_V ml_L_103 im_X9_keep se_X9_keep ini_X9 co_X9_keep) (by decide +kernel) ⟨Nat.le_of_ble_eq_true rfl, Nat.le_of_ble_eq_true rfl⟩ hl.1 (Nat.le_of_ble_eq_true rfl) rfl rfl d_law_712 (fun r2 Ω2 H locs hp hW hS => ?_)
  obtain ⟨hr2, hMM, hF⟩ := hp
  replace hMB := inMB.keep hMB (fun z h1 h2 => hF z (by omega))
  have hs := s_keep hR (xs (nI i + 1).toNatClampNeg)
  refine lv_icmp_eq (tgt := 766) hx hb d_law_715 (by decide) (fun _ => ?_) (fun c_ => absurd (by rw [hr1, hr2]; exact hs.1) c_)
  exact kk _ _ _ _ _ hMB hMM hs.2 hW hS
set_option maxHeartbeats 4000000 in
set_option maxRecDepth 100000 in
theorem case_back {p : Program} {l : Launch} {e : Env} {s : State} {m : MethodId} {below : List Frame} {meth : Method} {c : Code} {b L i x : Nat} {xs : Nat → Int32} {G : Gm} {Q : State → Prop} (hx : p.tables.exec = Jvm.exec) (hb : c.code = code) (hml : c.maxLocals = 4) (hown : s.vm.findClass RL = some m.cls) (hts : ∀ w ∈ gt, w.before #[Value.ref b] s = true) (hK : oK G s) (hN : oN s) (hZ : oZ (fun q : Nat => s.heap.size ≤ q) s s.heap) (hX : va_X b L xs s s.heap) (hbl : b < s.heap.size) (hL : L ≤ 1536) (hi : i + 3 ≤ L) {k : MBk} {q : MMk} {Ω : Om} {H : Heap} {locs : List Loc} {ls : Array Slot} (hl : lv_has ls 4 [(0, .ref b), (1, .ref x), (2, .ref (x + 175)), (3, .int (nI i))]) (hMB : inMB G Ω x k) (hMM : inMM G Ω (x + 175) q) (hR : Rel k q) (hW : oW G (fun q : Nat => s.heap.size ≤ q) Ω H) (hS : va_S (fun q : Nat => s.heap.size ≤ q) s.heap H locs) (kk : ∀ (k : MBk) (q : MMk) (Ω : Om) (H : Heap) (locs : List Loc), inMB G Ω x k → inMM G Ω (x + 175) q → Rel k q → oW G (fun q : Nat => s.heap.size ≤ q) Ω H → va_S (fun q : Nat => s.heap.size ≤ q) s.heap H locs → W p l e room_1 s m #[Value.ref b] below meth c H locs 183 3303 Q (F0 m 766 ls [])) : W p l e room_1 s m #[Value.ref b] below meth c H locs 183 3303 Q (F0 m 720 ls []) := by
  have ok := rel_ok hR
  have hA : ∀ q : Nat, s.heap.size ≤ q → (fun q : Nat => s.heap.size ≤ q) q := fun _ h => h
  have hbA : ¬ (fun q : Nat => s.heap.size ≤ q) b := Nat.not_le.mpr hbl
  obtain ⟨fs8, h8⟩ := inMB_o hMB
  have ix1 : vp_in (nI i + 1) L := by rw [nI_1]; exact vp_in_nI (by omega) (by omega)
  refine lv_aload_n hx hb d_law_720 rfl (lv_at hl 1 rfl) ?_
  refine lv_aload_n hx hb d_law_721 rfl (lv_at hl 0 rfl) ?_
  refine lv_iload_n hx hb d_law_722 rfl (lv_at hl 3 rfl) ?_
  refine lv_iconst (v := 1) hx hb d_law_723 (by decide) ?_
  refine lv_iadd hx hb d_law_724 ?_
  refine va_sld hx hb hX hbl hbA hS ix1 d_law_725 ?_
  refine o_Vi (rest := []) (As := [.int (xs (nI i + 1).toNatClampNeg)]) (n := 1) hx hb hml hown hts hK hN hZ hW hS hA (m_back l G _ Ω x k (xs (nI i + 1).toNatClampNeg) hMB ok.1) h8 rfl (good_V ml_L_104 im_X8_back se_X8_back ini_X8 co_X8_back) (by decide +kernel) ⟨Nat.le_of_ble_eq_true rfl, Nat.le_of_ble_eq_true rfl⟩ hl.1 (Nat.le_of_ble_eq_true rfl) rfl rfl d_law_726 (fun r Ω1 H locs hp hW hS => ?_)
  obtain ⟨hr1, hMB, hF⟩ := hp
  replace hMM : inMM G Ω1 (x + 175) q := hMM.keep (fun z h1 h2 => hF z (by omega))
  refine lv_aload_n hx hb d_law_729 rfl (lv_at hl 2 rfl) ?_
  refine lv_aload_n hx hb d_law_730 rfl (lv_at hl 0 rfl) ?_
  refine lv_iload_n hx hb d_law_731 rfl (lv_at hl 3 rfl) ?_
  refine lv_iconst (v := 1) hx hb d_law_732 (by decide) ?_
  refine lv_iadd hx hb d_law_733 ?_
  refine va_sld hx hb hX hbl hbA hS ix1 d_law_734 ?_
  refine o_Vi (rest := [.int r]) (As := [.int (xs (nI i + 1).toNatClampNeg)]) (n := 1) hx hb hml hown hts hK hN hZ hW hS hA (n_back l G _ Ω1 (x + 175) q (xs (nI i + 1).toNatClampNeg) hMM ok.2) (inMod_o hMM) rfl (good_V ml_L_107 im_X9_back se_X9_back ini_X9 co_X9_back) (by decide +kernel) ⟨Nat.le_of_ble_eq_true rfl, Nat.le_of_ble_eq_true rfl⟩ hl.1 (Nat.le_of_ble_eq_true rfl) rfl rfl d_law_735 (fun r2 Ω2 H locs hp hW hS => ?_)
  obtain ⟨hr2, hMM, hF⟩ := hp
  replace hMB := inMB.keep hMB (fun z h1 h2 => hF z (by omega))
  have hs := s_back hR (xs (nI i + 1).toNatClampNeg)
  refine lv_icmp_eq (tgt := 766) hx hb d_law_738 (by decide) (fun _ => ?_) (fun c_ => absurd (by rw [hr1, hr2]; exact hs.1) c_)
  exact kk _ _ _ _ _ hMB hMM hs.2 hW hS
set_option maxHeartbeats 4000000 in
set_option maxRecDepth 100000 in
theorem case_count {p : Program} {l : Launch} {e : Env} {s : State} {m : MethodId} {below : List Frame} {meth : Method} {c : Code} {b L i x : Nat} {xs : Nat → Int32} {G : Gm} {Q : State → Prop} (hx : p.tables.exec = Jvm.exec) (hb : c.code = code) (hml : c.maxLocals = 4) (hown : s.vm.findClass RL = some m.cls) (hts : ∀ w ∈ gt, w.before #[Value.ref b] s = true) (hK : oK G s) (hN : oN s) (hZ : oZ (fun q : Nat => s.heap.size ≤ q) s s.heap) (hX : va_X b L xs s s.heap) (hbl : b < s.heap.size) (hL : L ≤ 1536) (hi : i + 3 ≤ L) {k : MBk} {q : MMk} {Ω : Om} {H : Heap} {locs : List Loc} {ls : Array Slot} (hl : lv_has ls 4 [(0, .ref b), (1, .ref x), (2, .ref (x + 175)), (3, .int (nI i))]) (hMB : inMB G Ω x k) (hMM : inMM G Ω (x + 175) q) (hR : Rel k q) (hW : oW G (fun q : Nat => s.heap.size ≤ q) Ω H) (hS : va_S (fun q : Nat => s.heap.size ≤ q) s.heap H locs) (kk : ∀ (k : MBk) (q : MMk) (Ω : Om) (H : Heap) (locs : List Loc), inMB G Ω x k → inMM G Ω (x + 175) q → Rel k q → oW G (fun q : Nat => s.heap.size ≤ q) Ω H → va_S (fun q : Nat => s.heap.size ≤ q) s.heap H locs → W p l e room_1 s m #[Value.ref b] below meth c H locs 183 3303 Q (F0 m 766 ls [])) : W p l e room_1 s m #[Value.ref b] below meth c H locs 183 3303 Q (F0 m 743 ls []) := by
  have ok := rel_ok hR
  have hA : ∀ q : Nat, s.heap.size ≤ q → (fun q : Nat => s.heap.size ≤ q) q := fun _ h => h
  have hbA : ¬ (fun q : Nat => s.heap.size ≤ q) b := Nat.not_le.mpr hbl
  obtain ⟨fs8, h8⟩ := inMB_o hMB
  have ix1 : vp_in (nI i + 1) L := by rw [nI_1]; exact vp_in_nI (by omega) (by omega)
  refine lv_aload_n hx hb d_law_743 rfl (lv_at hl 1 rfl) ?_
  refine lv_aload_n hx hb d_law_744 rfl (lv_at hl 0 rfl) ?_
  refine lv_iload_n hx hb d_law_745 rfl (lv_at hl 3 rfl) ?_
  refine lv_iconst (v := 1) hx hb d_law_746 (by decide) ?_
  refine lv_iadd hx hb d_law_747 ?_
  refine va_sld hx hb hX hbl hbA hS ix1 d_law_748 ?_
  refine o_Vi (rest := []) (As := [.int (xs (nI i + 1).toNatClampNeg)]) (n := 1) hx hb hml hown hts hK hN hZ hW hS hA (m_count l G _ Ω x k (xs (nI i + 1).toNatClampNeg) hMB ok.1) h8 rfl (good_V ml_L_108 im_X8_count se_X8_count ini_X8 co_X8_count) (by decide +kernel) ⟨Nat.le_of_ble_eq_true rfl, Nat.le_of_ble_eq_true rfl⟩ hl.1 (Nat.le_of_ble_eq_true rfl) rfl rfl d_law_749 (fun r Ω1 H locs hp hW hS => ?_)
  obtain ⟨hr1, hMB, hF⟩ := hp
  replace hMM : inMM G Ω1 (x + 175) q := hMM.keep (fun z h1 h2 => hF z (by omega))
  refine lv_aload_n hx hb d_law_752 rfl (lv_at hl 2 rfl) ?_
  refine lv_aload_n hx hb d_law_753 rfl (lv_at hl 0 rfl) ?_
  refine lv_iload_n hx hb d_law_754 rfl (lv_at hl 3 rfl) ?_
  refine lv_iconst (v := 1) hx hb d_law_755 (by decide) ?_
  refine lv_iadd hx hb d_law_756 ?_
  refine va_sld hx hb hX hbl hbA hS ix1 d_law_757 ?_
  refine o_Vi (rest := [.int r]) (As := [.int (xs (nI i + 1).toNatClampNeg)]) (n := 1) hx hb hml hown hts hK hN hZ hW hS hA (n_count l G _ Ω1 (x + 175) q (xs (nI i + 1).toNatClampNeg) hMM ok.2) (inMod_o hMM) rfl (good_V ml_L_111 im_X9_count se_X9_count ini_X9 co_X9_count) (by decide +kernel) ⟨Nat.le_of_ble_eq_true rfl, Nat.le_of_ble_eq_true rfl⟩ hl.1 (Nat.le_of_ble_eq_true rfl) rfl rfl d_law_758 (fun r2 Ω2 H locs hp hW hS => ?_)
  obtain ⟨hr2, hMM, hF⟩ := hp
  replace hMB := inMB.keep hMB (fun z h1 h2 => hF z (by omega))
  have hs := s_count hR (xs (nI i + 1).toNatClampNeg)
  refine lv_icmp_eq (tgt := 766) hx hb d_law_761 (by decide) (fun _ => ?_) (fun c_ => absurd (by rw [hr1, hr2]; exact hs.1) c_)
  exact kk _ _ _ _ _ hMB hMM hs.2 hW hS
