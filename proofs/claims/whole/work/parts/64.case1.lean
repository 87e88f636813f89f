/-! the law's cases, from its switch to its end of loop -/
set_option maxHeartbeats 4000000 in
set_option maxRecDepth 100000 in
theorem case_type {p : Program} {l : Launch} {e : Env} {s : State} {m : MethodId} {below : List Frame} {meth : Method} {c : Code} {b L i x : Nat} {xs : Nat → Int32} {G : Gm} {Q : State → Prop} (hx : p.tables.exec = Jvm.exec) (hb : c.code = code) (hml : c.maxLocals = 4) (hown : s.vm.findClass RL = some m.cls) (hts : ∀ w ∈ gt, w.before #[Value.ref b] s = true) (hK : oK G s) (hN : oN s) (hZ : oZ (fun q : Nat => s.heap.size ≤ q) s s.heap) (hX : va_X b L xs s s.heap) (hbl : b < s.heap.size) (hL : L ≤ 1536) (hi : i + 3 ≤ L) {k : MBk} {q : MMk} {Ω : Om} {H : Heap} {locs : List Loc} {ls : Array Slot} (hl : lv_has ls 4 [(0, .ref b), (1, .ref x), (2, .ref (x + 175)), (3, .int (nI i))]) (hMB : inMB G Ω x k) (hMM : inMM G Ω (x + 175) q) (hR : Rel k q) (hW : oW G (fun q : Nat => s.heap.size ≤ q) Ω H) (hS : va_S (fun q : Nat => s.heap.size ≤ q) s.heap H locs) (kk : ∀ (k : MBk) (q : MMk) (Ω : Om) (H : Heap) (locs : List Loc), inMB G Ω x k → inMM G Ω (x + 175) q → Rel k q → oW G (fun q : Nat => s.heap.size ≤ q) Ω H → va_S (fun q : Nat => s.heap.size ≤ q) s.heap H locs → W p l e room_1 s m #[Value.ref b] below meth c H locs 183 3303 Q (F0 m 766 ls [])) : W p l e room_1 s m #[Value.ref b] below meth c H locs 183 3303 Q (F0 m 144 ls []) := by
  have ok := rel_ok hR
  have hA : ∀ q : Nat, s.heap.size ≤ q → (fun q : Nat => s.heap.size ≤ q) q := fun _ h => h
  have hbA : ¬ (fun q : Nat => s.heap.size ≤ q) b := Nat.not_le.mpr hbl
  obtain ⟨fs8, h8⟩ := inMB_o hMB
  have ix1 : vp_in (nI i + 1) L := by rw [nI_1]; exact vp_in_nI (by omega) (by omega)
  refine lv_aload_n hx hb d_law_144 rfl (lv_at hl 1 rfl) ?_
  refine lv_aload_n hx hb d_law_145 rfl (lv_at hl 0 rfl) ?_
  refine lv_iload_n hx hb d_law_146 rfl (lv_at hl 3 rfl) ?_
  refine lv_iconst (v := 1) hx hb d_law_147 (by decide) ?_
  refine lv_iadd hx hb d_law_148 ?_
  refine va_sld hx hb hX hbl hbA hS ix1 d_law_149 ?_
  refine o_Vi (rest := []) (As := [.int (xs (nI i + 1).toNatClampNeg)]) (n := 1) hx hb hml hown hts hK hN hZ hW hS hA (m_type l G _ Ω x k (xs (nI i + 1).toNatClampNeg) hMB ok.1) h8 rfl (good_V ml_L_13 im_X8_type se_X8_type ini_X8 co_X8_type) (by decide +kernel) ⟨Nat.le_of_ble_eq_true rfl, Nat.le_of_ble_eq_true rfl⟩ hl.1 (Nat.le_of_ble_eq_true rfl) rfl rfl d_law_150 (fun r Ω1 H locs hp hW hS => ?_)
  obtain ⟨hr1, hMB, hF⟩ := hp
  replace hMM : inMM G Ω1 (x + 175) q := hMM.keep (fun z h1 h2 => hF z (by omega))
  refine lv_aload_n hx hb d_law_153 rfl (lv_at hl 2 rfl) ?_
  refine lv_aload_n hx hb d_law_154 rfl (lv_at hl 0 rfl) ?_
  refine lv_iload_n hx hb d_law_155 rfl (lv_at hl 3 rfl) ?_
  refine lv_iconst (v := 1) hx hb d_law_156 (by decide) ?_
  refine lv_iadd hx hb d_law_157 ?_
  refine va_sld hx hb hX hbl hbA hS ix1 d_law_158 ?_
  refine o_Vi (rest := [.int r]) (As := [.int (xs (nI i + 1).toNatClampNeg)]) (n := 1) hx hb hml hown hts hK hN hZ hW hS hA (n_type l G _ Ω1 (x + 175) q (xs (nI i + 1).toNatClampNeg) hMM ok.2) (inMod_o hMM) rfl (good_V ml_L_17 im_X9_type se_X9_type ini_X9 co_X9_type) (by decide +kernel) ⟨Nat.le_of_ble_eq_true rfl, Nat.le_of_ble_eq_true rfl⟩ hl.1 (Nat.le_of_ble_eq_true rfl) rfl rfl d_law_159 (fun r2 Ω2 H locs hp hW hS => ?_)
  obtain ⟨hr2, hMM, hF⟩ := hp
  replace hMB := inMB.keep hMB (fun z h1 h2 => hF z (by omega))
  have hs := s_type hR (xs (nI i + 1).toNatClampNeg)
  refine lv_icmp_eq (tgt := 766) hx hb d_law_162 (by decide) (fun _ => ?_) (fun c_ => absurd (by rw [hr1, hr2]; exact hs.1) c_)
  exact kk _ _ _ _ _ hMB hMM hs.2 hW hS
set_option maxHeartbeats 4000000 in
set_option maxRecDepth 100000 in
theorem case_clear {p : Program} {l : Launch} {e : Env} {s : State} {m : MethodId} {below : List Frame} {meth : Method} {c : Code} {b L i x : Nat} {xs : Nat → Int32} {G : Gm} {Q : State → Prop} (hx : p.tables.exec = Jvm.exec) (hb : c.code = code) (hml : c.maxLocals = 4) (hown : s.vm.findClass RL = some m.cls) (hts : ∀ w ∈ gt, w.before #[Value.ref b] s = true) (hK : oK G s) (hN : oN s) (hZ : oZ (fun q : Nat => s.heap.size ≤ q) s s.heap) (hX : va_X b L xs s s.heap) (hbl : b < s.heap.size) (hL : L ≤ 1536) (hi : i + 3 ≤ L) {k : MBk} {q : MMk} {Ω : Om} {H : Heap} {locs : List Loc} {ls : Array Slot} (hl : lv_has ls 4 [(0, .ref b), (1, .ref x), (2, .ref (x + 175)), (3, .int (nI i))]) (hMB : inMB G Ω x k) (hMM : inMM G Ω (x + 175) q) (hR : Rel k q) (hW : oW G (fun q : Nat => s.heap.size ≤ q) Ω H) (hS : va_S (fun q : Nat => s.heap.size ≤ q) s.heap H locs) (kk : ∀ (k : MBk) (q : MMk) (Ω : Om) (H : Heap) (locs : List Loc), inMB G Ω x k → inMM G Ω (x + 175) q → Rel k q → oW G (fun q : Nat => s.heap.size ≤ q) Ω H → va_S (fun q : Nat => s.heap.size ≤ q) s.heap H locs → W p l e room_1 s m #[Value.ref b] below meth c H locs 183 3303 Q (F0 m 766 ls [])) : W p l e room_1 s m #[Value.ref b] below meth c H locs 183 3303 Q (F0 m 167 ls []) := by
  have ok := rel_ok hR
  have hA : ∀ q : Nat, s.heap.size ≤ q → (fun q : Nat => s.heap.size ≤ q) q := fun _ h => h
  have hbA : ¬ (fun q : Nat => s.heap.size ≤ q) b := Nat.not_le.mpr hbl
  obtain ⟨fs8, h8⟩ := inMB_o hMB
  refine lv_aload_n hx hb d_law_167 rfl (lv_at hl 1 rfl) ?_
  refine o_Vi (rest := []) (As := []) (n := 0) hx hb hml hown hts hK hN hZ hW hS hA (m_clear l G _ Ω x k  hMB ok.1) h8 rfl (good_V ml_L_18 im_X8_clear se_X8_clear ini_X8 co_X8_clear) (by decide +kernel) ⟨Nat.le_of_ble_eq_true rfl, Nat.le_of_ble_eq_true rfl⟩ hl.1 (Nat.le_of_ble_eq_true rfl) rfl rfl d_law_168 (fun r Ω1 H locs hp hW hS => ?_)
  obtain ⟨hr1, hMB, hF⟩ := hp
  replace hMM : inMM G Ω1 (x + 175) q := hMM.keep (fun z h1 h2 => hF z (by omega))
  refine lv_aload_n hx hb d_law_171 rfl (lv_at hl 2 rfl) ?_
  refine o_Vi (rest := [.int r]) (As := []) (n := 0) hx hb hml hown hts hK hN hZ hW hS hA (n_clear l G _ Ω1 (x + 175) q  hMM ok.2) (inMod_o hMM) rfl (good_V ml_L_22 im_X9_clear se_X9_clear ini_X9 co_X9_clear) (by decide +kernel) ⟨Nat.le_of_ble_eq_true rfl, Nat.le_of_ble_eq_true rfl⟩ hl.1 (Nat.le_of_ble_eq_true rfl) rfl rfl d_law_172 (fun r2 Ω2 H locs hp hW hS => ?_)
  obtain ⟨hr2, hMM, hF⟩ := hp
  replace hMB := inMB.keep hMB (fun z h1 h2 => hF z (by omega))
  have hs := s_clear hR
  refine lv_icmp_eq (tgt := 766) hx hb d_law_175 (by decide) (fun _ => ?_) (fun c_ => absurd (by rw [hr1, hr2]; exact hs.1) c_)
  exact kk _ _ _ _ _ hMB hMM hs.2 hW hS
set_option maxHeartbeats 4000000 in
set_option maxRecDepth 100000 in
theorem case_tells {p : Program} {l : Launch} {e : Env} {s : State} {m : MethodId} {below : List Frame} {meth : Method} {c : Code} {b L i x : Nat} {xs : Nat → Int32} {G : Gm} {Q : State → Prop} (hx : p.tables.exec = Jvm.exec) (hb : c.code = code) (hml : c.maxLocals = 4) (hown : s.vm.findClass RL = some m.cls) (hts : ∀ w ∈ gt, w.before #[Value.ref b] s = true) (hK : oK G s) (hN : oN s) (hZ : oZ (fun q : Nat => s.heap.size ≤ q) s s.heap) (hX : va_X b L xs s s.heap) (hbl : b < s.heap.size) (hL : L ≤ 1536) (hi : i + 3 ≤ L) {k : MBk} {q : MMk} {Ω : Om} {H : Heap} {locs : List Loc} {ls : Array Slot} (hl : lv_has ls 4 [(0, .ref b), (1, .ref x), (2, .ref (x + 175)), (3, .int (nI i))]) (hMB : inMB G Ω x k) (hMM : inMM G Ω (x + 175) q) (hR : Rel k q) (hW : oW G (fun q : Nat => s.heap.size ≤ q) Ω H) (hS : va_S (fun q : Nat => s.heap.size ≤ q) s.heap H locs) (kk : ∀ (k : MBk) (q : MMk) (Ω : Om) (H : Heap) (locs : List Loc), inMB G Ω x k → inMM G Ω (x + 175) q → Rel k q → oW G (fun q : Nat => s.heap.size ≤ q) Ω H → va_S (fun q : Nat => s.heap.size ≤ q) s.heap H locs → W p l e room_1 s m #[Value.ref b] below meth c H locs 183 3303 Q (F0 m 766 ls [])) : W p l e room_1 s m #[Value.ref b] below meth c H locs 183 3303 Q (F0 m 180 ls []) := by
  have ok := rel_ok hR
  have hA : ∀ q : Nat, s.heap.size ≤ q → (fun q : Nat => s.heap.size ≤ q) q := fun _ h => h
  have hbA : ¬ (fun q : Nat => s.heap.size ≤ q) b := Nat.not_le.mpr hbl
  obtain ⟨fs8, h8⟩ := inMB_o hMB
  refine lv_aload_n hx hb d_law_180 rfl (lv_at hl 1 rfl) ?_
  refine o_Vi (rest := []) (As := []) (n := 0) hx hb hml hown hts hK hN hZ hW hS hA (m_tells l G _ Ω x k  hMB ok.1) h8 rfl (good_V ml_L_23 im_X8_tells se_X8_tells ini_X8 co_X8_tells) (by decide +kernel) ⟨Nat.le_of_ble_eq_true rfl, Nat.le_of_ble_eq_true rfl⟩ hl.1 (Nat.le_of_ble_eq_true rfl) rfl rfl d_law_181 (fun r Ω1 H locs hp hW hS => ?_)
  obtain ⟨hr1, hMB, hF⟩ := hp
  replace hMM : inMM G Ω1 (x + 175) q := hMM.keep (fun z h1 h2 => hF z (by omega))
  refine lv_aload_n hx hb d_law_184 rfl (lv_at hl 2 rfl) ?_
  refine o_Vi (rest := [.int r]) (As := []) (n := 0) hx hb hml hown hts hK hN hZ hW hS hA (n_tells l G _ Ω1 (x + 175) q  hMM ok.2) (inMod_o hMM) rfl (good_V ml_L_26 im_X9_tells se_X9_tells ini_X9 co_X9_tells) (by decide +kernel) ⟨Nat.le_of_ble_eq_true rfl, Nat.le_of_ble_eq_true rfl⟩ hl.1 (Nat.le_of_ble_eq_true rfl) rfl rfl d_law_185 (fun r2 Ω2 H locs hp hW hS => ?_)
  obtain ⟨hr2, hMM, hF⟩ := hp
  replace hMB := inMB.keep hMB (fun z h1 h2 => hF z (by omega))
  have hs := s_tells hR
  refine lv_icmp_eq (tgt := 766) hx hb d_law_188 (by decide) (fun _ => ?_) (fun c_ => absurd (by rw [hr1, hr2]; exact hs.1) c_)
  exact kk _ _ _ _ _ hMB hMM hs.2 hW hS
set_option maxHeartbeats 4000000 in
set_option maxRecDepth 100000 in
theorem case_resets {p : Program} {l : Launch} {e : Env} {s : State} {m : MethodId} {below : List Frame} {meth : Method} {c : Code} {b L i x : Nat} {xs : Nat → Int32} {G : Gm} {Q : State → Prop} (hx : p.tables.exec = Jvm.exec) (hb : c.code = code) (hml : c.maxLocals = 4) (hown : s.vm.findClass RL = some m.cls) (hts : ∀ w ∈ gt, w.before #[Value.ref b] s = true) (hK : oK G s) (hN : oN s) (hZ : oZ (fun q : Nat => s.heap.size ≤ q) s s.heap) (hX : va_X b L xs s s.heap) (hbl : b < s.heap.size) (hL : L ≤ 1536) (hi : i + 3 ≤ L) {k : MBk} {q : MMk} {Ω : Om} {H : Heap} {locs : List Loc} {ls : Array Slot} (hl : lv_has ls 4 [(0, .ref b), (1, .ref x), (2, .ref (x + 175)), (3, .int (nI i))]) (hMB : inMB G Ω x k) (hMM : inMM G Ω (x + 175) q) (hR : Rel k q) (hW : oW G (fun q : Nat => s.heap.size ≤ q) Ω H) (hS : va_S (fun q : Nat => s.heap.size ≤ q) s.heap H locs) (kk : ∀ (k : MBk) (q : MMk) (Ω : Om) (H : Heap) (locs : List Loc), inMB G Ω x k → inMM G Ω (x + 175) q → Rel k q → oW G (fun q : Nat => s.heap.size ≤ q) Ω H → va_S (fun q : Nat => s.heap.size ≤ q) s.heap H locs → W p l e room_1 s m #[Value.ref b] below meth c H locs 183 3303 Q (F0 m 766 ls [])) : W p l e room_1 s m #[Value.ref b] below meth c H locs 183 3303 Q (F0 m 193 ls []) := by
  have ok := rel_ok hR
  have hA : ∀ q : Nat, s.heap.size ≤ q → (fun q : Nat => s.heap.size ≤ q) q := fun _ h => h
  have hbA : ¬ (fun q : Nat => s.heap.size ≤ q) b := Nat.not_le.mpr hbl
  obtain ⟨fs8, h8⟩ := inMB_o hMB
  refine lv_aload_n hx hb d_law_193 rfl (lv_at hl 1 rfl) ?_
  refine o_Vi (rest := []) (As := []) (n := 0) hx hb hml hown hts hK hN hZ hW hS hA (m_resets l G _ Ω x k  hMB ok.1) h8 rfl (good_V ml_L_27 im_X8_resets se_X8_resets ini_X8 co_X8_resets) (by decide +kernel) ⟨Nat.le_of_ble_eq_true rfl, Nat.le_of_ble_eq_true rfl⟩ hl.1 (Nat.le_of_ble_eq_true rfl) rfl rfl d_law_194 (fun r Ω1 H locs hp hW hS => ?_)
  obtain ⟨hr1, hMB, hF⟩ := hp
  replace hMM : inMM G Ω1 (x + 175) q := hMM.keep (fun z h1 h2 => hF z (by omega))
  refine lv_aload_n hx hb d_law_197 rfl (lv_at hl 2 rfl) ?_
  refine o_Vi (rest := [.int r]) (As := []) (n := 0) hx hb hml hown hts hK hN hZ hW hS hA (n_resets l G _ Ω1 (x + 175) q  hMM ok.2) (inMod_o hMM) rfl (good_V ml_L_30 im_X9_resets se_X9_resets ini_X9 co_X9_resets) (by decide +kernel) ⟨Nat.le_of_ble_eq_true rfl, Nat.le_of_ble_eq_true rfl⟩ hl.1 (Nat.le_of_ble_eq_true rfl) rfl rfl d_law_198 (fun r2 Ω2 H locs hp hW hS => ?_)
  obtain ⟨hr2, hMM, hF⟩ := hp
  replace hMB := inMB.keep hMB (fun z h1 h2 => hF z (by omega))
  have hs := s_resets hR
  refine lv_icmp_eq (tgt := 766) hx hb d_law_201 (by decide) (fun _ => ?_) (fun c_ => absurd (by rw [hr1, hr2]; exact hs.1) c_)
  exact kk _ _ _ _ _ hMB hMM hs.2 hW hS
set_option maxHeartbeats 4000000 in
set_option maxRecDepth 100000 in
theorem case_reads {p : Program} {l : Launch} {e : Env} {s : State} {m : MethodId} {below : List Frame} {meth : Method} {c : Code} {b L i x : Nat} {xs : Nat → Int32} {G : Gm} {Q : State → Prop} (hx : p.tables.exec = Jvm.exec) (hb : c.code = code) (hml : c.maxLocals = 4) (hown : s.vm.findClass RL = some m.cls) (hts : ∀ w ∈ gt, w.before #[Value.ref b] s = true) (hK : oK G s) (hN : oN s) (hZ : oZ (fun q : Nat => s.heap.size ≤ q) s s.heap) (hX : va_X b L xs s s.heap) (hbl : b < s.heap.size) (hL : L ≤ 1536) (hi : i + 3 ≤ L) {k : MBk} {q : MMk} {Ω : Om} {H : Heap} {locs : List Loc} {ls : Array Slot} (hl : lv_has ls 4 [(0, .ref b), (1, .ref x), (2, .ref (x + 175)), (3, .int (nI i))]) (hMB : inMB G Ω x k) (hMM : inMM G Ω (x + 175) q) (hR : Rel k q) (hW : oW G (fun q : Nat => s.heap.size ≤ q) Ω H) (hS : va_S (fun q : Nat => s.heap.size ≤ q) s.heap H locs) (kk : ∀ (k : MBk) (q : MMk) (Ω : Om) (H : Heap) (locs : List Loc), inMB G Ω x k → inMM G Ω (x + 175) q → Rel k q → oW G (fun q : Nat => s.heap.size ≤ q) Ω H → va_S (fun q : Nat => s.heap.size ≤ q) s.heap H locs → W p l e room_1 s m #[Value.ref b] below meth c H locs 183 3303 Q (F0 m 766 ls [])) : W p l e room_1 s m #[Value.ref b] below meth c H locs 183 3303 Q (F0 m 206 ls []) := by
  have ok := rel_ok hR
  have hA : ∀ q : Nat, s.heap.size ≤ q → (fun q : Nat => s.heap.size ≤ q) q := fun _ h => h
  have hbA : ¬ (fun q : Nat => s.heap.size ≤ q) b := Nat.not_le.mpr hbl
  obtain ⟨fs8, h8⟩ := inMB_o hMB
  have ix1 : vp_in (nI i + 1) L := by rw [nI_1]; exact vp_in_nI (by omega) (by omega)
  refine lv_aload_n hx hb d_law_206 rfl (lv_at hl 1 rfl) ?_
  refine lv_aload_n hx hb d_law_207 rfl (lv_at hl 0 rfl) ?_
  refine lv_iload_n hx hb d_law_208 rfl (lv_at hl 3 rfl) ?_
  refine lv_iconst (v := 1) hx hb d_law_209 (by decide) ?_
  refine lv_iadd hx hb d_law_210 ?_
  refine va_sld hx hb hX hbl hbA hS ix1 d_law_211 ?_
  refine o_Vi (rest := []) (As := [.int (xs (nI i + 1).toNatClampNeg)]) (n := 1) hx hb hml hown hts hK hN hZ hW hS hA (m_reads l G _ Ω x k (xs (nI i + 1).toNatClampNeg) hMB ok.1) h8 rfl (good_V ml_L_31 im_X8_reads se_X8_reads ini_X8 co_X8_reads) (by decide +kernel) ⟨Nat.le_of_ble_eq_true rfl, Nat.le_of_ble_eq_true rfl⟩ hl.1 (Nat.le_of_ble_eq_true rfl) rfl rfl d_law_212 (fun r Ω1 H locs hp hW hS => ?_)
  obtain ⟨hr1, hMB, hF⟩ := hp
  replace hMM : inMM G Ω1 (x + 175) q := hMM.keep (fun z h1 h2 => hF z (by omega))
  refine lv_aload_n hx hb d_law_215 rfl (lv_at hl 2 rfl) ?_
  refine lv_aload_n hx hb d_law_216 rfl (lv_at hl 0 rfl) ?_
  refine lv_iload_n hx hb d_law_217 rfl (lv_at hl 3 rfl) ?_
  refine lv_iconst (v := 1) hx hb d_law_218 (by decide) ?_
  refine lv_iadd hx hb d_law_219 ?_
  refine va_sld hx hb hX hbl hbA hS ix1 d_law_220 ?_
  refine o_Vi (rest := [.int r]) (As := [.int (xs (nI i + 1).toNatClampNeg)]) (n := 1) hx hb hml hown hts hK hN hZ hW hS hA (n_reads l G _ Ω1 (x + 175) q (xs (nI i + 1).toNatClampNeg) hMM ok.2) (inMod_o hMM) rfl (good_V ml_L_34 im_X9_reads se_X9_reads ini_X9 co_X9_reads) (by decide +kernel) ⟨Nat.le_of_ble_eq_true rfl, Nat.le_of_ble_eq_true rfl⟩ hl.1 (Nat.le_of_ble_eq_true rfl) rfl rfl d_law_221 (fun r2 Ω2 H locs hp hW hS => ?_)
  obtain ⟨hr2, hMM, hF⟩ := hp
  replace hMB := inMB.keep hMB (fun z h1 h2 => hF z (by omega))
  have hs := s_reads hR (xs (nI i + 1).toNatClampNeg)
  refine lv_icmp_eq (tgt := 766) hx hb d_law_224 (by decide) (fun _ => ?_) (fun c_ => absurd (by rw [hr1, hr2]; exact hs.1) c_)
  exact kk _ _ _ _ _ hMB hMM hs.2 hW hS
set_option maxHeartbeats 4000000 in
set_option maxRecDepth 100000 in
theorem case_writes {p : Program} {l : Launch} {e : Env} {s : State} {m : MethodId} {below : List Frame} {meth : Method} {c : Code} {b L i x : Nat} {xs : Nat → Int32} {G : Gm} {Q : State → Prop} (hx : p.tables.exec = Jvm.exec) (hb : c.code = code) (hml : c.maxLocals = 4) (hown : s.vm.findClass RL = some m.cls) (hts : ∀ w ∈ gt, w.before #[Value.ref b] s = true) (hK : oK G s) (hN : oN s) (hZ : oZ (fun q : Nat => s.heap.size ≤ q) s s.heap) (hX : va_X b L xs s s.heap) (hbl : b < s.heap.size) (hL : L ≤ 1536) (hi : i + 3 ≤ L) {k : MBk} {q : MMk} {Ω : Om} {H : Heap} {locs : List Loc} {ls : Array Slot} (hl : lv_has ls 4 [(0, .ref b), (1, .ref x), (2, .ref (x + 175)), (3, .int (nI i))]) (hMB : inMB G Ω x k) (hMM : inMM G Ω (x + 175) q) (hR : Rel k q) (hW : oW G (fun q : Nat => s.heap.size ≤ q) Ω H) (hS : va_S (fun q : Nat => s.heap.size ≤ q) s.heap H locs) (kk : ∀ (k : MBk) (q : MMk) (Ω : Om) (H : Heap) (locs : List Loc), inMB G Ω x k → inMM G Ω (x + 175) q → Rel k q → oW G (fun q : Nat => s.heap.size ≤ q) Ω H → va_S (fun q : Nat => s.heap.size ≤ q) s.heap H locs → W p l e room_1 s m #[Value.ref b] below meth c H locs 183 3303 Q (F0 m 766 ls [])) : W p l e room_1 s m #[Value.ref b] below meth c H locs 183 3303 Q (F0 m 229 ls []) := by
  have ok := rel_ok hR
  have hA : ∀ q : Nat, s.heap.size ≤ q → (fun q : Nat => s.heap.size ≤ q) q := fun _ h => h
  have hbA : ¬ (fun q : Nat => s.heap.size ≤ q) b := Nat.not_le.mpr hbl
  obtain ⟨fs8, h8⟩ := inMB_o hMB
  have ix1 : vp_in (nI i + 1) L := by rw [nI_1]; exact vp_in_nI (by omega) (by omega)
  have ix2 : vp_in (nI i + 2) L := by rw [nI_2]; exact vp_in_nI (by omega) (by omega)
  refine lv_aload_n hx hb d_law_229 rfl (lv_at hl 1 rfl) ?_
  refine lv_aload_n hx hb d_law_230 rfl (lv_at hl 0 rfl) ?_
  refine lv_iload_n hx hb d_law_231 rfl (lv_at hl 3 rfl) ?_
  refine lv_iconst (v := 1) hx hb d_law_232 (by decide) ?_
  refine lv_iadd hx hb d_law_233 ?_
  refine va_sld hx hb hX hbl hbA hS ix1 d_law_234 ?_
  refine lv_aload_n hx hb d_law_235 rfl (lv_at hl 0 rfl) ?_
  refine lv_iload_n hx hb d_law_236 rfl (lv_at hl 3 rfl) ?_
  refine lv_iconst (v := 2) hx hb d_law_237 (by decide) ?_
  refine lv_iadd hx hb d_law_238 ?_
  refine va_sld hx hb hX hbl hbA hS ix2 d_law_239 ?_
  refine o_Vi (rest := []) (As := [.int (xs (nI i + 1).toNatClampNeg), .int (xs (nI i + 2).toNatClampNeg)]) (n := 2) hx hb hml hown hts hK hN hZ hW hS hA (m_writes l G _ Ω x k (xs (nI i + 1).toNatClampNeg) (xs (nI i + 2).toNatClampNeg) hMB ok.1) h8 rfl (good_V ml_L_35 im_X8_writes se_X8_writes ini_X8 co_X8_writes) (by decide +kernel) ⟨Nat.le_of_ble_eq_true rfl, Nat.le_of_ble_eq_true rfl⟩ hl.1 (Nat.le_of_ble_eq_true rfl) rfl rfl d_law_240 (fun r Ω1 H locs hp hW hS => ?_)
  obtain ⟨hr1, hMB, hF⟩ := hp
  replace hMM : inMM G Ω1 (x + 175) q := hMM.keep (fun z h1 h2 => hF z (by omega))
  refine lv_aload_n hx hb d_law_243 rfl (lv_at hl 2 rfl) ?_
  refine lv_aload_n hx hb d_law_244 rfl (lv_at hl 0 rfl) ?_
  refine lv_iload_n hx hb d_law_245 rfl (lv_at hl 3 rfl) ?_
  refine lv_iconst (v := 1) hx hb d_law_246 (by decide) ?_
  refine lv_iadd hx hb d_law_247 ?_
  refine va_sld hx hb hX hbl hbA hS ix1 d_law_248 ?_
  refine lv_aload_n hx hb d_law_249 rfl (lv_at hl 0 rfl) ?_
  refine lv_iload_n hx hb d_law_250 rfl (lv_at hl 3 rfl) ?_
  refine lv_iconst (v := 2) hx hb d_law_251 (by decide) ?_
  refine lv_iadd hx hb d_law_252 ?_
  refine va_sld hx hb hX hbl hbA hS ix2 d_law_253 ?_
  refine o_Vi (rest := [.int r]) (As := [.int (xs (nI i + 1).toNatClampNeg), .int (xs (nI i + 2).toNatClampNeg)]) (n := 2) hx hb hml hown hts hK hN hZ hW hS hA (n_writes l G _ Ω1 (x + 175) q (xs (nI i + 1).toNatClampNeg) (xs (nI i + 2).toNatClampNeg) hMM ok.2) (inMod_o hMM) rfl (good_V ml_L_39 im_X9_writes se_X9_writes ini_X9 co_X9_writes) (by decide +kernel) ⟨Nat.le_of_ble_eq_true rfl, Nat.le_of_ble_eq_true rfl⟩ hl.1 (Nat.le_of_ble_eq_true rfl) rfl rfl d_law_254 (fun r2 Ω2 H locs hp hW hS => ?_)
  obtain ⟨hr2, hMM, hF⟩ := hp
  replace hMB := inMB.keep hMB (fun z h1 h2 => hF z (by omega))
  have hs := s_writes hR (xs (nI i + 1).toNatClampNeg) (xs (nI i + 2).toNatClampNeg)
  refine lv_icmp_eq (tgt := 766) hx hb d_law_257 (by decide) (fun _ => ?_) (fun c_ => absurd (by rw [hr1, hr2]; exact hs.1) c_)
  exact kk _ _ _ _ _ hMB hMM hs.2 hW hS
