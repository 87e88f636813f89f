set_option maxHeartbeats 4000000 in
set_option maxRecDepth 100000 in
theorem c_X9_in (l : Launch) (G : Gm) (A : Nat → Prop) (Ω : Om) (x0 : Int32) (x1 : Int32) (x2 : Int32) : Met l yX9_in (wz yX9_in cX9_in 3 (some .boolean)) ({ frames := 0, cells := 0, slots := 0, locals := 0 } : Room) (va_Pc [.int x0, .int x1, .int x2] (oS G A Ω)) (va_Qi (fun (r : Int32) (Ω1 : Om) => (r = (f_X9_in x0 x1 x2) ∧ (r = 0 ∨ r = 1)) ∧ Ω1 = Ω) (oB G A) A) 0 0 A := by
  refine Met.ofW (cc := cX9_in) (maxL := 3) (ret := (some .boolean)) (by decide) rfl ?_
  intro p e s m args below meth c s₁ B hml hv
  obtain ⟨rfl, hW, hK, hN, hZ⟩ := hv
  have hx := B.exec
  have hb := B.bytes
  have hr := B.returns
  have hts : ∀ w ∈ gt, w.before _ s = true := fun w hw => atoms_spec (ws := wz yX9_in cX9_in 3 (some .boolean)) B.pre w (List.mem_cons_of_mem _ hw)
  have hown : s.vm.findClass RX9 = some m.cls := findClass_of_methodNamed B.named
  have hlocks := B.notSynchronized
  have hA : ∀ q, A q → A q := fun _ h => h
  have hS : va_S A s.heap s.heap [] := va_S.rf
  have hS0 := hS
  have hl := lv_entry ([.int x0, .int x1, .int x2]) (n := 3) (Nat.le_of_ble_eq_true rfl)
  rw [lg_entry_eq]
  generalize (lg_sl ([.int x0, .int x1, .int x2]) ++ List.replicate (3 - (lg_sl ([.int x0, .int x1, .int x2])).length) Slot.unset).toArray = ls at hl ⊢
  have hl : lv_has ls 3 [(0, .int x0), (1, .int x1), (2, .int x2)] := hl
  generalize hR : (f_X9_in x0 x1 x2) = R
  rw [f_X9_in] at hR
  refine lv_iload_n hx hb dX9_in_0 rfl (lv_at hl 0 rfl) ?_
  refine lv_iload_n hx hb dX9_in_1 rfl (lv_at hl 1 rfl) ?_
  refine lv_icmp_lt (tgt := 14) hx hb dX9_in_2 (by decide) (fun c_1 => ?_) (fun c_1 => ?_)
  · rw [if_pos c_1] at hR
    have i_1 := rlt c_1
    refine lv_iconst (v := (0 : Int32)) hx hb dX9_in_14 (by decide) ?_
    subst hR
    exact W.zret (v := (0 : Int32)) hx hb hr (nb01 (Or.inl rfl)) (fun t ht hW9 => ⟨⟨(0 : Int32), Ω, rfl, ⟨⟨rfl, (Or.inl rfl)⟩, rfl⟩, by rw [oB, ht]; exact hW⟩, hS.F ht⟩) hS.2.2 dX9_in_15
  · rw [if_neg c_1] at hR
    have i_1 := rnlt c_1
    refine lv_iload_n hx hb dX9_in_5 rfl (lv_at hl 0 rfl) ?_
    refine lv_iload_n hx hb dX9_in_6 rfl (lv_at hl 2 rfl) ?_
    refine lv_icmp_gt (tgt := 14) hx hb dX9_in_7 (by decide) (fun c_2 => ?_) (fun c_2 => ?_)
    · rw [if_pos c_2] at hR
      have i_2 := rlt c_2
      refine lv_iconst (v := (0 : Int32)) hx hb dX9_in_14 (by decide) ?_
      subst hR
      exact W.zret (v := (0 : Int32)) hx hb hr (nb01 (Or.inl rfl)) (fun t ht hW9 => ⟨⟨(0 : Int32), Ω, rfl, ⟨⟨rfl, (Or.inl rfl)⟩, rfl⟩, by rw [oB, ht]; exact hW⟩, hS.F ht⟩) hS.2.2 dX9_in_15
    · rw [if_neg c_2] at hR
      have i_2 := rnlt c_2
      refine lv_iconst (v := (1 : Int32)) hx hb dX9_in_10 (by decide) ?_
      refine lv_goto (tgt := 15) hx hb dX9_in_11 (by decide) ?_
      subst hR
      exact W.zret (v := (1 : Int32)) hx hb hr (nb01 (Or.inr rfl)) (fun t ht hW9 => ⟨⟨(1 : Int32), Ω, rfl, ⟨⟨rfl, (Or.inr rfl)⟩, rfl⟩, by rw [oB, ht]; exact hW⟩, hS.F ht⟩) hS.2.2 dX9_in_15
set_option maxHeartbeats 4000000 in
set_option maxRecDepth 100000 in
theorem c_X9_fields (l : Launch) (G : Gm) (A : Nat → Prop) (Ω : Om) (p0 : Nat) (p0_0 : Fn) (p0_1 : Fn) (p0_2 : Fn) (p0_3 : Fn) (p0_4 : Int32) (p0_5 : Fn) (p0_6 : Fn) (p0_7 : Fn) (p0_8 : Int32) (p0_9 : Int32) (p0_10 : Int32) (p0_11 : Int32) (p0_12 : Int32) (p0_13 : Int32) (hM_p0 : ToldInv p0_0) (h_p0 : inMod G Ω p0 p0_0 p0_1 p0_2 p0_3 p0_4 p0_5 p0_6 p0_7 p0_8 p0_9 p0_10 p0_11 p0_12 p0_13) : Met l yX9_fields (wz yX9_fields cX9_fields 1 (some .int)) ({ frames := 0, cells := 0, slots := 0, locals := 0 } : Room) (va_Pc [.ref p0] (oS G A Ω)) (va_Qi (fun (r : Int32) (Ω1 : Om) => r = (f_X9_fields p0_0) ∧ Ω1 = Ω) (oB G A) A) 0 0 A := by
  refine Met.ofW (cc := cX9_fields) (maxL := 1) (ret := (some .int)) (by decide) rfl ?_
  intro p e s m args below meth c s₁ B hml hv
  obtain ⟨rfl, hW, hK, hN, hZ⟩ := hv
  have hx := B.exec
  have hb := B.bytes
  have hr := B.returns
  have hts : ∀ w ∈ gt, w.before _ s = true := fun w hw => atoms_spec (ws := wz yX9_fields cX9_fields 1 (some .int)) B.pre w (List.mem_cons_of_mem _ hw)
  have hown : s.vm.findClass RX9 = some m.cls := findClass_of_methodNamed B.named
  have hlocks := B.notSynchronized
  have hA : ∀ q, A q → A q := fun _ h => h
  have hS : va_S A s.heap s.heap [] := va_S.rf
  have hS0 := hS
  have hl := lv_entry ([.ref p0]) (n := 1) (Nat.le_of_ble_eq_true rfl)
  rw [lg_entry_eq]
  generalize (lg_sl ([.ref p0]) ++ List.replicate (1 - (lg_sl ([.ref p0])).length) Slot.unset).toArray = ls at hl ⊢
  have hl : lv_has ls 1 [(0, .ref p0)] := hl
  generalize hR : (f_X9_fields p0_0) = R
  rw [f_X9_fields] at hR
  refine lv_aload_n hx hb dX9_fields_0 rfl (lv_at hl 0 rfl) ?_
  refine o_get hx hb hts hown hK hW (inMod_o h_p0) rfl ig9 0 (by decide) fl_X9_7 rfl dX9_fields_1 ?_
  refine lv_bipush (v := (91 : Int32)) hx hb dX9_fields_4 (by decide) ?_
  have j_1 : (91 : Int32).toInt = 91 := by decide
  refine o_iald hx hb hK hW (inMod_a0 h_p0) (vp_in_iff.mpr ⟨by omega, by omega⟩) dX9_fields_6 ?_
  subst hR
  exact W.iret (v := (p0_0 (91 : Int32).toNatClampNeg)) hx hb hr (fun t ht hW9 => ⟨⟨(p0_0 (91 : Int32).toNatClampNeg), Ω, rfl, ⟨rfl, rfl⟩, by rw [oB, ht]; exact hW⟩, hS.F ht⟩) hS.2.2 dX9_fields_7
set_option maxHeartbeats 4000000 in
set_option maxRecDepth 100000 in
theorem c_X9_registers (l : Launch) (G : Gm) (A : Nat → Prop) (Ω : Om) (p0 : Nat) (p0_0 : Fn) (p0_1 : Fn) (p0_2 : Fn) (p0_3 : Fn) (p0_4 : Int32) (p0_5 : Fn) (p0_6 : Fn) (p0_7 : Fn) (p0_8 : Int32) (p0_9 : Int32) (p0_10 : Int32) (p0_11 : Int32) (p0_12 : Int32) (p0_13 : Int32) (hM_p0 : ToldInv p0_0) (h_p0 : inMod G Ω p0 p0_0 p0_1 p0_2 p0_3 p0_4 p0_5 p0_6 p0_7 p0_8 p0_9 p0_10 p0_11 p0_12 p0_13) : Met l yX9_registers (wz yX9_registers cX9_registers 1 (some .int)) ({ frames := 0, cells := 0, slots := 0, locals := 0 } : Room) (va_Pc [.ref p0] (oS G A Ω)) (va_Qi (fun (r : Int32) (Ω1 : Om) => r = (f_X9_registers p0_0) ∧ Ω1 = Ω) (oB G A) A) 0 0 A := by
  refine Met.ofW (cc := cX9_registers) (maxL := 1) (ret := (some .int)) (by decide) rfl ?_
  intro p e s m args below meth c s₁ B hml hv
  obtain ⟨rfl, hW, hK, hN, hZ⟩ := hv
  have hx := B.exec
  have hb := B.bytes
  have hr := B.returns
  have hts : ∀ w ∈ gt, w.before _ s = true := fun w hw => atoms_spec (ws := wz yX9_registers cX9_registers 1 (some .int)) B.pre w (List.mem_cons_of_mem _ hw)
  have hown : s.vm.findClass RX9 = some m.cls := findClass_of_methodNamed B.named
  have hlocks := B.notSynchronized
  have hA : ∀ q, A q → A q := fun _ h => h
  have hS : va_S A s.heap s.heap [] := va_S.rf
  have hS0 := hS
  have hl := lv_entry ([.ref p0]) (n := 1) (Nat.le_of_ble_eq_true rfl)
  rw [lg_entry_eq]
  generalize (lg_sl ([.ref p0]) ++ List.replicate (1 - (lg_sl ([.ref p0])).length) Slot.unset).toArray = ls at hl ⊢
  have hl : lv_has ls 1 [(0, .ref p0)] := hl
  generalize hR : (f_X9_registers p0_0) = R
  rw [f_X9_registers] at hR
  refine lv_aload_n hx hb dX9_registers_0 rfl (lv_at hl 0 rfl) ?_
  refine o_get hx hb hts hown hK hW (inMod_o h_p0) rfl ig9 0 (by decide) fl_X9_7 rfl dX9_registers_1 ?_
  refine lv_bipush (v := (90 : Int32)) hx hb dX9_registers_4 (by decide) ?_
  have j_1 : (90 : Int32).toInt = 90 := by decide
  refine o_iald hx hb hK hW (inMod_a0 h_p0) (vp_in_iff.mpr ⟨by omega, by omega⟩) dX9_registers_6 ?_
  subst hR
  exact W.iret (v := (p0_0 (90 : Int32).toNatClampNeg)) hx hb hr (fun t ht hW9 => ⟨⟨(p0_0 (90 : Int32).toNatClampNeg), Ω, rfl, ⟨rfl, rfl⟩, by rw [oB, ht]; exact hW⟩, hS.F ht⟩) hS.2.2 dX9_registers_7
set_option maxHeartbeats 4000000 in
set_option maxRecDepth 100000 in
theorem c_X9_isField (l : Launch) (G : Gm) (A : Nat → Prop) (Ω : Om) (p0 : Nat) (p0_0 : Fn) (p0_1 : Fn) (p0_2 : Fn) (p0_3 : Fn) (p0_4 : Int32) (p0_5 : Fn) (p0_6 : Fn) (p0_7 : Fn) (p0_8 : Int32) (p0_9 : Int32) (p0_10 : Int32) (p0_11 : Int32) (p0_12 : Int32) (p0_13 : Int32) (x1 : Int32) (hM_p0 : ToldInv p0_0) (h_p0 : inMod G Ω p0 p0_0 p0_1 p0_2 p0_3 p0_4 p0_5 p0_6 p0_7 p0_8 p0_9 p0_10 p0_11 p0_12 p0_13) : Met l yX9_isField (wz yX9_isField cX9_isField 2 (some .boolean)) ({ frames := 1, cells := 0, slots := 0, locals := 22 } : Room) (va_Pc [.ref p0, .int x1] (oS G A Ω)) (va_Qi (fun (r : Int32) (Ω1 : Om) => (r = (f_X9_isField p0_0 x1) ∧ (r = 0 ∨ r = 1)) ∧ Ω1 = Ω) (oB G A) A) 0 0 A := by
  refine Met.ofW (cc := cX9_isField) (maxL := 2) (ret := (some .boolean)) (by decide) rfl ?_
  intro p e s m args below meth c s₁ B hml hv
  obtain ⟨rfl, hW, hK, hN, hZ⟩ := hv
  have hx := B.exec
  have hb := B.bytes
  have hr := B.returns
  have hts : ∀ w ∈ gt, w.before _ s = true := fun w hw => atoms_spec (ws := wz yX9_isField cX9_isField 2 (some .boolean)) B.pre w (List.mem_cons_of_mem _ hw)
  have hown : s.vm.findClass RX9 = some m.cls := findClass_of_methodNamed B.named
  have hlocks := B.notSynchronized
  have hA : ∀ q, A q → A q := fun _ h => h
  have hS : va_S A s.heap s.heap [] := va_S.rf
  have hS0 := hS
  have hl := lv_entry ([.ref p0, .int x1]) (n := 2) (Nat.le_of_ble_eq_true rfl)
  rw [lg_entry_eq]
  generalize (lg_sl ([.ref p0, .int x1]) ++ List.replicate (2 - (lg_sl ([.ref p0, .int x1])).length) Slot.unset).toArray = ls at hl ⊢
  have hl : lv_has ls 2 [(0, .ref p0), (1, .int x1)] := hl
  generalize hR : (f_X9_isField p0_0 x1) = R
  rw [f_X9_isField] at hR
  refine lv_iload_n hx hb dX9_isField_0 rfl (lv_at hl 1 rfl) ?_
  refine lv_iconst (v := (0 : Int32)) hx hb dX9_isField_1 (by decide) ?_
  refine lv_aload_n hx hb dX9_isField_2 rfl (lv_at hl 0 rfl) ?_
  refine o_ViR (rest := [.int (0 : Int32), .int x1]) (As := []) (n := 0) hx hb hml hown hts hK hN hZ hW hS hA (c_X9_fields l G A Ω p0 p0_0 p0_1 p0_2 p0_3 p0_4 p0_5 p0_6 p0_7 p0_8 p0_9 p0_10 p0_11 p0_12 p0_13 hM_p0 h_p0) (inMod_o h_p0) rfl (good_V ml_X9_35 im_X9_fields se_X9_fields ini_X9 co_X9_fields) (by decide +kernel) ⟨Nat.zero_le _, Nat.zero_le _⟩ hl.1 (Nat.le_of_ble_eq_true rfl) rfl rfl dX9_isField_3 (fun r H locs hp hW hS => ?_)
  subst hp
  refine lv_iconst (v := (1 : Int32)) hx hb dX9_isField_6 (by decide) ?_
  refine lv_isub hx hb dX9_isField_7 ?_
  have j_2 : (0 : Int32).toInt = 0 := by decide
  try have j_3 : 0 ≤ (f_X9_fields p0_0).toInt ∧ (f_X9_fields p0_0).toInt ≤ 12 := TI_91 hM_p0
  have j_4 : (1 : Int32).toInt = 1 := by decide
  try have j_5 : ((f_X9_fields p0_0) - (1 : Int32)).toInt = (f_X9_fields p0_0).toInt - (1 : Int32).toInt := fb_subI (by omega) (by omega)
  refine o_SiR (rest := []) (As := [.int x1, .int (0 : Int32), .int ((f_X9_fields p0_0) - (1 : Int32))]) (n := 3) hx hb hml hown hts hK hN hZ hW hS hA (c_X9_in l G A Ω x1 (0 : Int32) ((f_X9_fields p0_0) - (1 : Int32))) ml_X9_39 st_X9_in ini_X9 co_X9_in (by decide +kernel) ⟨Nat.zero_le _, Nat.zero_le _⟩ hl.1 (Nat.le_of_ble_eq_true rfl) rfl rfl dX9_isField_8 (fun r H locs hp hW hS => ?_)
  obtain ⟨rfl, hz_6⟩ := hp
  subst hR
  exact W.zret (v := (f_X9_in x1 (0 : Int32) ((f_X9_fields p0_0) - (1 : Int32)))) hx hb hr (nb01 hz_6) (fun t ht hW9 => ⟨⟨(f_X9_in x1 (0 : Int32) ((f_X9_fields p0_0) - (1 : Int32))), Ω, rfl, ⟨⟨rfl, hz_6⟩, rfl⟩, by rw [oB, ht]; exact hW⟩, hS.F ht⟩) hS.2.2 dX9_isField_11
set_option maxHeartbeats 4000000 in
set_option maxRecDepth 100000 in
theorem c_X9_isRegister (l : Launch) (G : Gm) (A : Nat → Prop) (Ω : Om) (p0 : Nat) (p0_0 : Fn) (p0_1 : Fn) (p0_2 : Fn) (p0_3 : Fn) (p0_4 : Int32) (p0_5 : Fn) (p0_6 : Fn) (p0_7 : Fn) (p0_8 : Int32) (p0_9 : Int32) (p0_10 : Int32) (p0_11 : Int32) (p0_12 : Int32) (p0_13 : Int32) (x1 : Int32) (hM_p0 : ToldInv p0_0) (h_p0 : inMod G Ω p0 p0_0 p0_1 p0_2 p0_3 p0_4 p0_5 p0_6 p0_7 p0_8 p0_9 p0_10 p0_11 p0_12 p0_13) : Met l yX9_isRegister (wz yX9_isRegister cX9_isRegister 2 (some .boolean)) ({ frames := 1, cells := 0, slots := 0, locals := 22 } : Room) (va_Pc [.ref p0, .int x1] (oS G A Ω)) (va_Qi (fun (r : Int32) (Ω1 : Om) => (r = (f_X9_isRegister p0_0 x1) ∧ (r = 0 ∨ r = 1)) ∧ Ω1 = Ω) (oB G A) A) 0 0 A := by
  refine Met.ofW (cc := cX9_isRegister) (maxL := 2) (ret := (some .boolean)) (by decide) rfl ?_
  intro p e s m args below meth c s₁ B hml hv
  obtain ⟨rfl, hW, hK, hN, hZ⟩ := hv
  have hx := B.exec
  have hb := B.bytes
  have hr := B.returns
  have hts : ∀ w ∈ gt, w.before _ s = true := fun w hw => atoms_spec (ws := wz yX9_isRegister cX9_isRegister 2 (some .boolean)) B.pre w (List.mem_cons_of_mem _ hw)
  have hown : s.vm.findClass RX9 = some m.cls := findClass_of_methodNamed B.named
  have hlocks := B.notSynchronized
  have hA : ∀ q, A q → A q := fun _ h => h
  have hS : va_S A s.heap s.heap [] := va_S.rf
  have hS0 := hS
  have hl := lv_entry ([.ref p0, .int x1]) (n := 2) (Nat.le_of_ble_eq_true rfl)
  rw [lg_entry_eq]
  generalize (lg_sl ([.ref p0, .int x1]) ++ List.replicate (2 - (lg_sl ([.ref p0, .int x1])).length) Slot.unset).toArray = ls at hl ⊢
  have hl : lv_has ls 2 [(0, .ref p0), (1, .int x1)] := hl
  generalize hR : (f_X9_isRegister p0_0 x1) = R
  rw [f_X9_isRegister] at hR
  refine lv_iload_n hx hb dX9_isRegister_0 rfl (lv_at hl 1 rfl) ?_
  refine lv_iconst (v := (0 : Int32)) hx hb dX9_isRegister_1 (by decide) ?_
  refine lv_aload_n hx hb dX9_isRegister_2 rfl (lv_at hl 0 rfl) ?_
  refine o_ViR (rest := [.int (0 : Int32), .int x1]) (As := []) (n := 0) hx hb hml hown hts hK hN hZ hW hS hA (c_X9_registers l G A Ω p0 p0_0 p0_1 p0_2 p0_3 p0_4 p0_5 p0_6 p0_7 p0_8 p0_9 p0_10 p0_11 p0_12 p0_13 hM_p0 h_p0) (inMod_o h_p0) rfl (good_V ml_X9_43 im_X9_registers se_X9_registers ini_X9 co_X9_registers) (by decide +kernel) ⟨Nat.zero_le _, Nat.zero_le _⟩ hl.1 (Nat.le_of_ble_eq_true rfl) rfl rfl dX9_isRegister_3 (fun r H locs hp hW hS => ?_)
  subst hp
  refine lv_iconst (v := (1 : Int32)) hx hb dX9_isRegister_6 (by decide) ?_
  refine lv_isub hx hb dX9_isRegister_7 ?_
  have j_2 : (0 : Int32).toInt = 0 := by decide
  try have j_3 : 0 ≤ (f_X9_registers p0_0).toInt ∧ (f_X9_registers p0_0).toInt ≤ 6 := TI_90 hM_p0
  have j_4 : (1 : Int32).toInt = 1 := by decide
  try have j_5 : ((f_X9_registers p0_0) - (1 : Int32)).toInt = (f_X9_registers p0_0).toInt - (1 : Int32).toInt := fb_subI (by omega) (by omega)
  refine o_SiR (rest := []) (As := [.int x1, .int (0 : Int32), .int ((f_X9_registers p0_0) - (1 : Int32))]) (n := 3) hx hb hml hown hts hK hN hZ hW hS hA (c_X9_in l G A Ω x1 (0 : Int32) ((f_X9_registers p0_0) - (1 : Int32))) ml_X9_39 st_X9_in ini_X9 co_X9_in (by decide +kernel) ⟨Nat.zero_le _, Nat.zero_le _⟩ hl.1 (Nat.le_of_ble_eq_true rfl) rfl rfl dX9_isRegister_8 (fun r H locs hp hW hS => ?_)
  obtain ⟨rfl, hz_6⟩ := hp
  subst hR
  exact W.zret (v := (f_X9_in x1 (0 : Int32) ((f_X9_registers p0_0) - (1 : Int32)))) hx hb hr (nb01 hz_6) (fun t ht hW9 => ⟨⟨(f_X9_in x1 (0 : Int32) ((f_X9_registers p0_0) - (1 : Int32))), Ω, rfl, ⟨⟨rfl, hz_6⟩, rfl⟩, by rw [oB, ht]; exact hW⟩, hS.F ht⟩) hS.2.2 dX9_isRegister_11
set_option maxHeartbeats 4000000 in
set_option maxRecDepth 100000 in
theorem c_X9_most (l : Launch) (G : Gm) (A : Nat → Prop) (Ω : Om) (p0 : Nat) (p0_0 : Fn) (p0_1 : Fn) (p0_2 : Fn) (p0_3 : Fn) (p0_4 : Int32) (p0_5 : Fn) (p0_6 : Fn) (p0_7 : Fn) (p0_8 : Int32) (p0_9 : Int32) (p0_10 : Int32) (p0_11 : Int32) (p0_12 : Int32) (p0_13 : Int32) (x1 : Int32) (hM_p0 : ToldInv p0_0) (hi_x1 : 0 ≤ x1.toInt ∧ x1.toInt < 12) (h_p0 : inMod G Ω p0 p0_0 p0_1 p0_2 p0_3 p0_4 p0_5 p0_6 p0_7 p0_8 p0_9 p0_10 p0_11 p0_12 p0_13) : Met l yX9_most (wz yX9_most cX9_most 2 (some .int)) ({ frames := 0, cells := 0, slots := 0, locals := 0 } : Room) (va_Pc [.ref p0, .int x1] (oS G A Ω)) (va_Qi (fun (r : Int32) (Ω1 : Om) => r = (f_X9_most p0_0 x1) ∧ Ω1 = Ω) (oB G A) A) 0 0 A := by
  refine Met.ofW (cc := cX9_most) (maxL := 2) (ret := (some .int)) (by decide) rfl ?_
  intro p e s m args below meth c s₁ B hml hv
  obtain ⟨rfl, hW, hK, hN, hZ⟩ := hv
  have hx := B.exec
  have hb := B.bytes
  have hr := B.returns
  have hts : ∀ w ∈ gt, w.before _ s = true := fun w hw => atoms_spec (ws := wz yX9_most cX9_most 2 (some .int)) B.pre w (List.mem_cons_of_mem _ hw)
  have hown : s.vm.findClass RX9 = some m.cls := findClass_of_methodNamed B.named
  have hlocks := B.notSynchronized
  have hA : ∀ q, A q → A q := fun _ h => h
  have hS : va_S A s.heap s.heap [] := va_S.rf
  have hS0 := hS
  have hl := lv_entry ([.ref p0, .int x1]) (n := 2) (Nat.le_of_ble_eq_true rfl)
  rw [lg_entry_eq]
  generalize (lg_sl ([.ref p0, .int x1]) ++ List.replicate (2 - (lg_sl ([.ref p0, .int x1])).length) Slot.unset).toArray = ls at hl ⊢
  have hl : lv_has ls 2 [(0, .ref p0), (1, .int x1)] := hl
  generalize hR : (f_X9_most p0_0 x1) = R
  rw [f_X9_most] at hR
  refine lv_iconst (v := (1 : Int32)) hx hb dX9_most_0 (by decide) ?_
  refine lv_aload_n hx hb dX9_most_1 rfl (lv_at hl 0 rfl) ?_
  refine o_get hx hb hts hown hK hW (inMod_o h_p0) rfl ig9 0 (by decide) fl_X9_7 rfl dX9_most_2 ?_
  refine lv_bipush (v := (42 : Int32)) hx hb dX9_most_5 (by decide) ?_
  refine lv_iload_n hx hb dX9_most_7 rfl (lv_at hl 1 rfl) ?_
  refine lv_iadd hx hb dX9_most_8 ?_
  have j_1 : (42 : Int32).toInt = 42 := by decide
  try have j_2 : ((42 : Int32) + x1).toInt = (42 : Int32).toInt + x1.toInt := fb_addI (by omega) (by omega)
  refine o_iald hx hb hK hW (inMod_a0 h_p0) (vp_in_iff.mpr ⟨by omega, by omega⟩) dX9_most_9 ?_
  refine lv_aload_n hx hb dX9_most_10 rfl (lv_at hl 0 rfl) ?_
  refine o_get hx hb hts hown hK hW (inMod_o h_p0) rfl ig9 0 (by decide) fl_X9_7 rfl dX9_most_11 ?_
  refine lv_bipush (v := (30 : Int32)) hx hb dX9_most_14 (by decide) ?_
  refine lv_iload_n hx hb dX9_most_16 rfl (lv_at hl 1 rfl) ?_
  refine lv_iadd hx hb dX9_most_17 ?_
  have j_3 : (30 : Int32).toInt = 30 := by decide
  try have j_4 : ((30 : Int32) + x1).toInt = (30 : Int32).toInt + x1.toInt := fb_addI (by omega) (by omega)
  refine o_iald hx hb hK hW (inMod_a0 h_p0) (vp_in_iff.mpr ⟨by omega, by omega⟩) dX9_most_18 ?_
  refine lv_isub hx hb dX9_most_19 ?_
  refine lv_iconst (v := (1 : Int32)) hx hb dX9_most_20 (by decide) ?_
  refine lv_iadd hx hb dX9_most_21 ?_
  refine lv_ishl hx hb dX9_most_22 ?_
  refine lv_iconst (v := (1 : Int32)) hx hb dX9_most_23 (by decide) ?_
  refine lv_isub hx hb dX9_most_24 ?_
  subst hR
  exact W.iret (v := (((1 : Int32) <<< ((((p0_0 ((42 : Int32) + x1).toNatClampNeg) - (p0_0 ((30 : Int32) + x1).toNatClampNeg)) + (1 : Int32)) &&& 31)) - (1 : Int32))) hx hb hr (fun t ht hW9 => ⟨⟨(((1 : Int32) <<< ((((p0_0 ((42 : Int32) + x1).toNatClampNeg) - (p0_0 ((30 : Int32) + x1).toNatClampNeg)) + (1 : Int32)) &&& 31)) - (1 : Int32)), Ω, rfl, ⟨rfl, rfl⟩, by rw [oB, ht]; exact hW⟩, hS.F ht⟩) hS.2.2 dX9_most_25
set_option maxHeartbeats 4000000 in
set_option maxRecDepth 100000 in
theorem c_X9_bitsOf (l : Launch) (G : Gm) (A : Nat → Prop) (Ω : Om) (p0 : Nat) (p0_0 : Fn) (p0_1 : Fn) (p0_2 : Fn) (p0_3 : Fn) (p0_4 : Int32) (p0_5 : Fn) (p0_6 : Fn) (p0_7 : Fn) (p0_8 : Int32) (p0_9 : Int32) (p0_10 : Int32) (p0_11 : Int32) (p0_12 : Int32) (p0_13 : Int32) (x1 : Int32) (hM_p0 : ToldInv p0_0) (hi_x1 : 0 ≤ x1.toInt ∧ x1.toInt < 12) (h_p0 : inMod G Ω p0 p0_0 p0_1 p0_2 p0_3 p0_4 p0_5 p0_6 p0_7 p0_8 p0_9 p0_10 p0_11 p0_12 p0_13) : Met l yX9_bitsOf (wz yX9_bitsOf cX9_bitsOf 2 (some .int)) ({ frames := 1, cells := 0, slots := 0, locals := 21 } : Room) (va_Pc [.ref p0, .int x1] (oS G A Ω)) (va_Qi (fun (r : Int32) (Ω1 : Om) => r = (f_X9_bitsOf p0_0 x1) ∧ Ω1 = Ω) (oB G A) A) 0 0 A := by
  refine Met.ofW (cc := cX9_bitsOf) (maxL := 2) (ret := (some .int)) (by decide) rfl ?_
  intro p e s m args below meth c s₁ B hml hv
  obtain ⟨rfl, hW, hK, hN, hZ⟩ := hv
  have hx := B.exec
  have hb := B.bytes
  have hr := B.returns
  have hts : ∀ w ∈ gt, w.before _ s = true := fun w hw => atoms_spec (ws := wz yX9_bitsOf cX9_bitsOf 2 (some .int)) B.pre w (List.mem_cons_of_mem _ hw)
  have hown : s.vm.findClass RX9 = some m.cls := findClass_of_methodNamed B.named
  have hlocks := B.notSynchronized
  have hA : ∀ q, A q → A q := fun _ h => h
  have hS : va_S A s.heap s.heap [] := va_S.rf
  have hS0 := hS
  have hl := lv_entry ([.ref p0, .int x1]) (n := 2) (Nat.le_of_ble_eq_true rfl)
  rw [lg_entry_eq]
  generalize (lg_sl ([.ref p0, .int x1]) ++ List.replicate (2 - (lg_sl ([.ref p0, .int x1])).length) Slot.unset).toArray = ls at hl ⊢
  have hl : lv_has ls 2 [(0, .ref p0), (1, .int x1)] := hl
  generalize hR : (f_X9_bitsOf p0_0 x1) = R
  rw [f_X9_bitsOf] at hR
  refine lv_aload_n hx hb dX9_bitsOf_0 rfl (lv_at hl 0 rfl) ?_
  refine lv_iload_n hx hb dX9_bitsOf_1 rfl (lv_at hl 1 rfl) ?_
  refine o_ViR (rest := []) (As := [.int x1]) (n := 1) hx hb hml hown hts hK hN hZ hW hS hA (c_X9_most l G A Ω p0 p0_0 p0_1 p0_2 p0_3 p0_4 p0_5 p0_6 p0_7 p0_8 p0_9 p0_10 p0_11 p0_12 p0_13 x1 hM_p0 (by omega) h_p0) (inMod_o h_p0) rfl (good_V ml_X9_46 im_X9_most se_X9_most ini_X9 co_X9_most) (by decide +kernel) ⟨Nat.zero_le _, Nat.zero_le _⟩ hl.1 (Nat.le_of_ble_eq_true rfl) rfl rfl dX9_bitsOf_2 (fun r H locs hp hW hS => ?_)
  subst hp
  refine lv_aload_n hx hb dX9_bitsOf_5 rfl (lv_at hl 0 rfl) ?_
  refine o_get hx hb hts hown hK hW (inMod_o h_p0) rfl ig9 0 (by decide) fl_X9_7 rfl dX9_bitsOf_6 ?_
  refine lv_bipush (v := (30 : Int32)) hx hb dX9_bitsOf_9 (by decide) ?_
  refine lv_iload_n hx hb dX9_bitsOf_11 rfl (lv_at hl 1 rfl) ?_
  refine lv_iadd hx hb dX9_bitsOf_12 ?_
  have j_2 : (30 : Int32).toInt = 30 := by decide
  try have j_3 : ((30 : Int32) + x1).toInt = (30 : Int32).toInt + x1.toInt := fb_addI (by omega) (by omega)
  refine o_iald hx hb hK hW (inMod_a0 h_p0) (vp_in_iff.mpr ⟨by omega, by omega⟩) dX9_bitsOf_13 ?_
  refine lv_ishl hx hb dX9_bitsOf_14 ?_
  subst hR
  exact W.iret (v := ((f_X9_most p0_0 x1) <<< ((p0_0 ((30 : Int32) + x1).toNatClampNeg) &&& 31))) hx hb hr (fun t ht hW9 => ⟨⟨((f_X9_most p0_0 x1) <<< ((p0_0 ((30 : Int32) + x1).toNatClampNeg) &&& 31)), Ω, rfl, ⟨rfl, rfl⟩, by rw [oB, ht]; exact hW⟩, hS.F ht⟩) hS.2.2 dX9_bitsOf_15
set_option maxHeartbeats 4000000 in
set_option maxRecDepth 100000 in
theorem c_X9_reset (l : Launch) (G : Gm) (A : Nat → Prop) (Ω : Om) (p0 : Nat) (p0_0 : Fn) (p0_1 : Fn) (p0_2 : Fn) (p0_3 : Fn) (p0_4 : Int32) (p0_5 : Fn) (p0_6 : Fn) (p0_7 : Fn) (p0_8 : Int32) (p0_9 : Int32) (p0_10 : Int32) (p0_11 : Int32) (p0_12 : Int32) (p0_13 : Int32) (x1 : Int32) (hM_p0 : ToldInv p0_0) (hm : 0 ≤ x1.toInt ∧ x1.toInt ≤ 135) (h_p0 : inMod G Ω p0 p0_0 p0_1 p0_2 p0_3 p0_4 p0_5 p0_6 p0_7 p0_8 p0_9 p0_10 p0_11 p0_12 p0_13) : Met l yX9_reset (wz yX9_reset cX9_reset 3 none) ({ frames := 1, cells := 0, slots := 0, locals := 20 } : Room) (va_Pc [.ref p0, .int x1] (oS G A Ω)) (va_Qv (fun (Ω1 : Om) => inMod G Ω1 p0 p0_0 p0_1 ((f_X9_reset p0_0 p0_2 x1)) p0_3 p0_4 p0_5 p0_6 p0_7 p0_8 p0_9 p0_10 p0_11 p0_12 p0_13 ∧ (∀ q : Nat, (q < p0 ∨ p0 + 8 ≤ q) → Ω1 q = Ω q)) (oB G A) A) 0 0 A := by
  refine Met.ofW (cc := cX9_reset) (maxL := 3) (ret := none) (by decide) rfl ?_
  intro p e s m args below meth c s₁ B hml hv
  obtain ⟨rfl, hW, hK, hN, hZ⟩ := hv
  have hx := B.exec
  have hb := B.bytes
  have hr := B.returns
  have hts : ∀ w ∈ gt, w.before _ s = true := fun w hw => atoms_spec (ws := wz yX9_reset cX9_reset 3 none) B.pre w (List.mem_cons_of_mem _ hw)
  have hown : s.vm.findClass RX9 = some m.cls := findClass_of_methodNamed B.named
  have hlocks := B.notSynchronized
  have hA : ∀ q, A q → A q := fun _ h => h
  have hS : va_S A s.heap s.heap [] := va_S.rf
  have hS0 := hS
  have hl := lv_entry ([.ref p0, .int x1]) (n := 3) (Nat.le_of_ble_eq_true rfl)
  rw [lg_entry_eq]
  generalize (lg_sl ([.ref p0, .int x1]) ++ List.replicate (3 - (lg_sl ([.ref p0, .int x1])).length) Slot.unset).toArray = ls at hl ⊢
  have hl : lv_has ls 3 [(0, .ref p0), (1, .int x1)] := hl
  have hE : ∀ q : Nat, (q < p0 ∨ p0 + 8 ≤ q) → Ω q = Ω q := by intros; rfl
  generalize hR : (f_X9_reset p0_0 p0_2 x1) = R
  rw [f_X9_reset] at hR
  refine lv_iconst (v := (0 : Int32)) hx hb dX9_reset_0 (by decide) ?_
  refine lv_istore_n (lv' := [(2, .int (0 : Int32)), (0, .ref p0), (1, .int x1)]) hx hb dX9_reset_1 rfl hl (by decide) rfl (fun ls hl => ?_)
  have L2 : ∀ (n_2 : Nat) (x2_1 : Int32) (p0_2_1 : Fn) (Ω_3 : Om) (H : Heap) (locs : List Loc), (0 ≤ x2_1.toInt ∧ x2_1.toInt ≤ 12 ∧ 12 - x2_1.toInt < n_2) → inMod G Ω_3 p0 p0_0 p0_1 p0_2_1 p0_3 p0_4 p0_5 p0_6 p0_7 p0_8 p0_9 p0_10 p0_11 p0_12 p0_13 → (∀ q : Nat, (q < p0 ∨ p0 + 8 ≤ q) → Ω_3 q = Ω q) → oW G A Ω_3 H → va_S A s.heap H locs → ∀ ls : Array Slot, lv_has ls 3 [(0, .ref p0), (1, .int x1), (2, .int x2_1)] → (f_X9_reset_L2 p0_0 x1 n_2 x2_1 p0_2_1) = R → W p l e (headSpec (wz yX9_reset cX9_reset 3 none) ({ frames := 1, cells := 0, slots := 0, locals := 20 } : Room)).room s m ([.ref p0, .int x1] : List Value).toArray below meth c H locs 0 0 (MQ below (va_Qv (fun (Ω1 : Om) => inMod G Ω1 p0 p0_0 p0_1 (R) p0_3 p0_4 p0_5 p0_6 p0_7 p0_8 p0_9 p0_10 p0_11 p0_12 p0_13 ∧ (∀ q : Nat, (q < p0 ∨ p0 + 8 ≤ q) → Ω1 q = Ω q)) (oB G A) A) ([.ref p0, .int x1] : List Value).toArray s 0 0 A) (F0 m 2 ls []) := by
    intro n_2
    induction n_2 with
    | zero =>
      intro x2_1 p0_2_1 Ω_3 H locs v_2_0 h_p0 hE hW hS ls hl hR
      exfalso
      omega
    | succ n_2 ih2 =>
      intro x2_1 p0_2_1 Ω_3 H locs v_2_0 h_p0 hE hW hS ls hl hR
      rw [f_X9_reset_L2] at hR
      refine lv_iload_n hx hb dX9_reset_2 rfl (lv_at hl 2 rfl) ?_
      refine lv_bipush (v := (12 : Int32)) hx hb dX9_reset_3 (by decide) ?_
      have j_5 : (12 : Int32).toInt = 12 := by decide
      refine lv_icmp_ge (tgt := 43) hx hb dX9_reset_5 (by decide) (fun c_4 => ?_) (fun c_4 => ?_)
      · rw [if_pos c_4] at hR
        have i_4 := rle c_4
        refine lv_iconst (v := (0 : Int32)) hx hb dX9_reset_43 (by decide) ?_
        refine lv_istore_n (lv' := [(2, .int (0 : Int32)), (0, .ref p0), (1, .int x1)]) hx hb dX9_reset_44 rfl hl (by decide) rfl (fun ls hl => ?_)
        have L45 : ∀ (n_7 : Nat) (x2_6 : Int32) (p0_2_6 : Fn) (Ω_8 : Om) (H : Heap) (locs : List Loc), (0 ≤ x2_6.toInt ∧ x2_6.toInt ≤ 6 ∧ 6 - x2_6.toInt < n_7) → inMod G Ω_8 p0 p0_0 p0_1 p0_2_6 p0_3 p0_4 p0_5 p0_6 p0_7 p0_8 p0_9 p0_10 p0_11 p0_12 p0_13 → (∀ q : Nat, (q < p0 ∨ p0 + 8 ≤ q) → Ω_8 q = Ω q) → oW G A Ω_8 H → va_S A s.heap H locs → ∀ ls : Array Slot, lv_has ls 3 [(0, .ref p0), (1, .int x1), (2, .int x2_6)] → (f_X9_reset_L45 x1 n_7 x2_6 p0_2_6) = R → W p l e (headSpec (wz yX9_reset cX9_reset 3 none) ({ frames := 1, cells := 0, slots := 0, locals := 20 } : Room)).room s m ([.ref p0, .int x1] : List Value).toArray below meth c H locs 0 0 (MQ below (va_Qv (fun (Ω1 : Om) => inMod G Ω1 p0 p0_0 p0_1 (R) p0_3 p0_4 p0_5 p0_6 p0_7 p0_8 p0_9 p0_10 p0_11 p0_12 p0_13 ∧ (∀ q : Nat, (q < p0 ∨ p0 + 8 ≤ q) → Ω1 q = Ω q)) (oB G A) A) ([.ref p0, .int x1] : List Value).toArray s 0 0 A) (F0 m 45 ls []) := by
          intro n_7
          induction n_7 with
          | zero =>
            intro x2_6 p0_2_6 Ω_8 H locs v_45_0 h_p0 hE hW hS ls hl hR
            exfalso
            omega
          | succ n_7 ih45 =>
            intro x2_6 p0_2_6 Ω_8 H locs v_45_0 h_p0 hE hW hS ls hl hR
            rw [f_X9_reset_L45] at hR
            refine lv_iload_n hx hb dX9_reset_45 rfl (lv_at hl 2 rfl) ?_
            refine lv_bipush (v := (6 : Int32)) hx hb dX9_reset_46 (by decide) ?_
            have j_10 : (6 : Int32).toInt = 6 := by decide
            refine lv_icmp_ge (tgt := 82) hx hb dX9_reset_48 (by decide) (fun c_9 => ?_) (fun c_9 => ?_)
            · rw [if_pos c_9] at hR
              have i_9 := rle c_9
              subst hR
              exact W.vret hx hb hr (fun t ht hW9 => ⟨⟨Ω_8, rfl, ⟨h_p0, hE⟩, by rw [oB, ht]; exact hW⟩, hS.F ht⟩) hS.2.2 dX9_reset_82
            · rw [if_neg c_9] at hR
              have i_9 := rnle c_9
              refine lv_aload_n hx hb dX9_reset_51 rfl (lv_at hl 0 rfl) ?_
              refine o_get hx hb hts hown hK hW (inMod_o h_p0) rfl ig9 2 (by decide) fl_X9_16 rfl dX9_reset_52 ?_
              refine lv_iload_n hx hb dX9_reset_55 rfl (lv_at hl 1 rfl) ?_
              refine lv_bipush (v := (24 : Int32)) hx hb dX9_reset_56 (by decide) ?_
              refine lv_iadd hx hb dX9_reset_58 ?_
              refine lv_iload_n hx hb dX9_reset_59 rfl (lv_at hl 2 rfl) ?_
              refine lv_iadd hx hb dX9_reset_60 ?_
              refine lv_bipush (v := (-9 : Int32)) hx hb dX9_reset_61 (by decide) ?_
              have j_11 : (24 : Int32).toInt = 24 := by decide
              try have j_12 : (x1 + (24 : Int32)).toInt = x1.toInt + (24 : Int32).toInt := fb_addI (by omega) (by omega)
              try have j_13 : ((x1 + (24 : Int32)) + x2_6).toInt = (x1 + (24 : Int32)).toInt + x2_6.toInt := fb_addI (by omega) (by omega)
              refine wMod_2 hx hb hK hW hS hA h_p0 (vp_in_iff.mpr ⟨by omega, by omega⟩) dX9_reset_63 (fun Ω_14 H locs h_p0 hF_14 hW hS => ?_)
              have hE : ∀ q : Nat, (q < p0 ∨ p0 + 8 ≤ q) → Ω_14 q = Ω q := fun q g0 => (hF_14 q (by omega)).trans (hE q g0)
              refine lv_aload_n hx hb dX9_reset_64 rfl (lv_at hl 0 rfl) ?_
              refine o_get hx hb hts hown hK hW (inMod_o h_p0) rfl ig9 2 (by decide) fl_X9_16 rfl dX9_reset_65 ?_
              refine lv_iload_n hx hb dX9_reset_68 rfl (lv_at hl 1 rfl) ?_
              refine lv_bipush (v := (30 : Int32)) hx hb dX9_reset_69 (by decide) ?_
              refine lv_iadd hx hb dX9_reset_71 ?_
              refine lv_iload_n hx hb dX9_reset_72 rfl (lv_at hl 2 rfl) ?_
              refine lv_iadd hx hb dX9_reset_73 ?_
              refine lv_iconst (v := (0 : Int32)) hx hb dX9_reset_74 (by decide) ?_
              have j_15 : (30 : Int32).toInt = 30 := by decide
              try have j_16 : (x1 + (30 : Int32)).toInt = x1.toInt + (30 : Int32).toInt := fb_addI (by omega) (by omega)
              try have j_17 : ((x1 + (30 : Int32)) + x2_6).toInt = (x1 + (30 : Int32)).toInt + x2_6.toInt := fb_addI (by omega) (by omega)
              refine wMod_2 hx hb hK hW hS hA h_p0 (vp_in_iff.mpr ⟨by omega, by omega⟩) dX9_reset_75 (fun Ω_18 H locs h_p0 hF_18 hW hS => ?_)
              have hE : ∀ q : Nat, (q < p0 ∨ p0 + 8 ≤ q) → Ω_18 q = Ω q := fun q g0 => (hF_18 q (by omega)).trans (hE q g0)
              refine lv_iinc (v := (x2_6 + (1 : Int32))) (lv' := [(2, .int (x2_6 + (1 : Int32))), (0, .ref p0), (1, .int x1)]) hx hb dX9_reset_76 hl (k := 2) rfl rfl (by decide) rfl (fun ls hl => ?_)
              refine lv_goto (tgt := 45) hx hb dX9_reset_79 (by decide) ?_
              have j_19 : (1 : Int32).toInt = 1 := by decide
              try have j_20 : (x2_6 + (1 : Int32)).toInt = x2_6.toInt + (1 : Int32).toInt := fb_addI (by omega) (by omega)
              exact ih45 (x2_6 + (1 : Int32)) (upd (upd p0_2_6 ((x1 + (24 : Int32)) + x2_6).toNatClampNeg (-9 : Int32)) ((x1 + (30 : Int32)) + x2_6).toNatClampNeg (0 : Int32)) Ω_18 H locs (by omega) h_p0 hE hW hS ls (lv_sub hl [1, 2, 0] rfl) hR
        have j_21 : (0 : Int32).toInt = 0 := by decide
        exact L45 4000 (0 : Int32) p0_2_1 Ω_3 H locs (by omega) h_p0 hE hW hS ls (lv_sub hl [1, 2, 0] rfl) hR
      · rw [if_neg c_4] at hR
        have i_4 := rnle c_4
        refine lv_aload_n hx hb dX9_reset_8 rfl (lv_at hl 0 rfl) ?_
        refine o_get hx hb hts hown hK hW (inMod_o h_p0) rfl ig9 2 (by decide) fl_X9_16 rfl dX9_reset_9 ?_
        refine lv_iload_n hx hb dX9_reset_12 rfl (lv_at hl 1 rfl) ?_
        refine lv_iload_n hx hb dX9_reset_13 rfl (lv_at hl 2 rfl) ?_
        refine lv_iadd hx hb dX9_reset_14 ?_
        refine lv_iload_n hx hb dX9_reset_15 rfl (lv_at hl 2 rfl) ?_
        refine lv_aload_n hx hb dX9_reset_16 rfl (lv_at hl 0 rfl) ?_
        refine o_ViR (rest := [.int x2_1, .int (x1 + x2_1), .ref (p0 + 3)]) (As := []) (n := 0) hx hb hml hown hts hK hN hZ hW hS hA (c_X9_fields l G A Ω_3 p0 p0_0 p0_1 p0_2_1 p0_3 p0_4 p0_5 p0_6 p0_7 p0_8 p0_9 p0_10 p0_11 p0_12 p0_13 hM_p0 h_p0) (inMod_o h_p0) rfl (good_V ml_X9_35 im_X9_fields se_X9_fields ini_X9 co_X9_fields) (by decide +kernel) ⟨Nat.zero_le _, Nat.zero_le _⟩ hl.1 (Nat.le_of_ble_eq_true rfl) rfl rfl dX9_reset_17 (fun r H locs hp hW hS => ?_)
        subst hp
        try have j_24 : 0 ≤ (f_X9_fields p0_0).toInt ∧ (f_X9_fields p0_0).toInt ≤ 12 := TI_91 hM_p0
        refine lv_icmp_ge (tgt := 35) hx hb dX9_reset_20 (by decide) (fun c_23 => ?_) (fun c_23 => ?_)
        · rw [if_pos c_23] at hR
          have i_23 := rle c_23
          refine lv_iconst (v := (0 : Int32)) hx hb dX9_reset_35 (by decide) ?_
          try have j_25 : (x1 + x2_1).toInt = x1.toInt + x2_1.toInt := fb_addI (by omega) (by omega)
          refine wMod_2 hx hb hK hW hS hA h_p0 (vp_in_iff.mpr ⟨by omega, by omega⟩) dX9_reset_36 (fun Ω_26 H locs h_p0 hF_26 hW hS => ?_)
          have hE : ∀ q : Nat, (q < p0 ∨ p0 + 8 ≤ q) → Ω_26 q = Ω q := fun q g0 => (hF_26 q (by omega)).trans (hE q g0)
          refine lv_iinc (v := (x2_1 + (1 : Int32))) (lv' := [(2, .int (x2_1 + (1 : Int32))), (0, .ref p0), (1, .int x1)]) hx hb dX9_reset_37 hl (k := 2) rfl rfl (by decide) rfl (fun ls hl => ?_)
          refine lv_goto (tgt := 2) hx hb dX9_reset_40 (by decide) ?_
          have j_27 : (1 : Int32).toInt = 1 := by decide
          try have j_28 : (x2_1 + (1 : Int32)).toInt = x2_1.toInt + (1 : Int32).toInt := fb_addI (by omega) (by omega)
          exact ih2 (x2_1 + (1 : Int32)) (upd p0_2_1 (x1 + x2_1).toNatClampNeg (0 : Int32)) Ω_26 H locs (by omega) h_p0 hE hW hS ls (lv_sub hl [1, 2, 0] rfl) hR
        · rw [if_neg c_23] at hR
          have i_23 := rnle c_23
          refine lv_aload_n hx hb dX9_reset_23 rfl (lv_at hl 0 rfl) ?_
          refine o_get hx hb hts hown hK hW (inMod_o h_p0) rfl ig9 0 (by decide) fl_X9_7 rfl dX9_reset_24 ?_
          refine lv_bipush (v := (66 : Int32)) hx hb dX9_reset_27 (by decide) ?_
          refine lv_iload_n hx hb dX9_reset_29 rfl (lv_at hl 2 rfl) ?_
          refine lv_iadd hx hb dX9_reset_30 ?_
          have j_29 : (66 : Int32).toInt = 66 := by decide
          try have j_30 : ((66 : Int32) + x2_1).toInt = (66 : Int32).toInt + x2_1.toInt := fb_addI (by omega) (by omega)
          refine o_iald hx hb hK hW (inMod_a0 h_p0) (vp_in_iff.mpr ⟨by omega, by omega⟩) dX9_reset_31 ?_
          refine lv_goto (tgt := 36) hx hb dX9_reset_32 (by decide) ?_
          try have j_31 : (x1 + x2_1).toInt = x1.toInt + x2_1.toInt := fb_addI (by omega) (by omega)
          refine wMod_2 hx hb hK hW hS hA h_p0 (vp_in_iff.mpr ⟨by omega, by omega⟩) dX9_reset_36 (fun Ω_32 H locs h_p0 hF_32 hW hS => ?_)
          have hE : ∀ q : Nat, (q < p0 ∨ p0 + 8 ≤ q) → Ω_32 q = Ω q := fun q g0 => (hF_32 q (by omega)).trans (hE q g0)
          refine lv_iinc (v := (x2_1 + (1 : Int32))) (lv' := [(2, .int (x2_1 + (1 : Int32))), (0, .ref p0), (1, .int x1)]) hx hb dX9_reset_37 hl (k := 2) rfl rfl (by decide) rfl (fun ls hl => ?_)
          refine lv_goto (tgt := 2) hx hb dX9_reset_40 (by decide) ?_
          have j_33 : (1 : Int32).toInt = 1 := by decide
          try have j_34 : (x2_1 + (1 : Int32)).toInt = x2_1.toInt + (1 : Int32).toInt := fb_addI (by omega) (by omega)
          exact ih2 (x2_1 + (1 : Int32)) (upd p0_2_1 (x1 + x2_1).toNatClampNeg (p0_0 ((66 : Int32) + x2_1).toNatClampNeg)) Ω_32 H locs (by omega) h_p0 hE hW hS ls (lv_sub hl [1, 2, 0] rfl) hR
  have j_35 : (0 : Int32).toInt = 0 := by decide
  exact L2 4000 (0 : Int32) p0_2 Ω s.heap [] (by omega) h_p0 hE hW hS ls (lv_sub hl [1, 2, 0] rfl) hR
set_option maxHeartbeats 4000000 in
set_option maxRecDepth 100000 in
theorem c_X9_repair (l : Launch) (G : Gm) (A : Nat → Prop) (Ω : Om) (p0 : Nat) (p0_0 : Fn) (p0_1 : Fn) (p0_2 : Fn) (p0_3 : Fn) (p0_4 : Int32) (p0_5 : Fn) (p0_6 : Fn) (p0_7 : Fn) (p0_8 : Int32) (p0_9 : Int32) (p0_10 : Int32) (p0_11 : Int32) (p0_12 : Int32) (p0_13 : Int32) (x1 : Int32) (hM_p0 : ToldInv p0_0) (hm : 0 ≤ x1.toInt ∧ x1.toInt ≤ 135) (h_p0 : inMod G Ω p0 p0_0 p0_1 p0_2 p0_3 p0_4 p0_5 p0_6 p0_7 p0_8 p0_9 p0_10 p0_11 p0_12 p0_13) : Met l yX9_repair (wz yX9_repair cX9_repair 3 none) ({ frames := 1, cells := 0, slots := 0, locals := 20 } : Room) (va_Pc [.ref p0, .int x1] (oS G A Ω)) (va_Qv (fun (Ω1 : Om) => inMod G Ω1 p0 p0_0 p0_1 ((f_X9_repair p0_0 p0_2 x1)) p0_3 p0_4 p0_5 p0_6 p0_7 p0_8 p0_9 p0_10 p0_11 p0_12 p0_13 ∧ (∀ q : Nat, (q < p0 ∨ p0 + 8 ≤ q) → Ω1 q = Ω q)) (oB G A) A) 0 0 A := by
  refine Met.ofW (cc := cX9_repair) (maxL := 3) (ret := none) (by decide) rfl ?_
  intro p e s m args below meth c s₁ B hml hv
  obtain ⟨rfl, hW, hK, hN, hZ⟩ := hv
  have hx := B.exec
  have hb := B.bytes
  have hr := B.returns
  have hts : ∀ w ∈ gt, w.before _ s = true := fun w hw => atoms_spec (ws := wz yX9_repair cX9_repair 3 none) B.pre w (List.mem_cons_of_mem _ hw)
  have hown : s.vm.findClass RX9 = some m.cls := findClass_of_methodNamed B.named
  have hlocks := B.notSynchronized
  have hA : ∀ q, A q → A q := fun _ h => h
  have hS : va_S A s.heap s.heap [] := va_S.rf
  have hS0 := hS
  have hl := lv_entry ([.ref p0, .int x1]) (n := 3) (Nat.le_of_ble_eq_true rfl)
  rw [lg_entry_eq]
  generalize (lg_sl ([.ref p0, .int x1]) ++ List.replicate (3 - (lg_sl ([.ref p0, .int x1])).length) Slot.unset).toArray = ls at hl ⊢
  have hl : lv_has ls 3 [(0, .ref p0), (1, .int x1)] := hl
  have hE : ∀ q : Nat, (q < p0 ∨ p0 + 8 ≤ q) → Ω q = Ω q := by intros; rfl
  generalize hR : (f_X9_repair p0_0 p0_2 x1) = R
  rw [f_X9_repair] at hR
  refine lv_iconst (v := (0 : Int32)) hx hb dX9_repair_0 (by decide) ?_
  refine lv_istore_n (lv' := [(2, .int (0 : Int32)), (0, .ref p0), (1, .int x1)]) hx hb dX9_repair_1 rfl hl (by decide) rfl (fun ls hl => ?_)
  have L2 : ∀ (n_2 : Nat) (x2_1 : Int32) (p0_2_1 : Fn) (Ω_3 : Om) (H : Heap) (locs : List Loc), (0 ≤ x2_1.toInt ∧ x2_1.toInt ≤ 12 ∧ 12 - x2_1.toInt < n_2) → inMod G Ω_3 p0 p0_0 p0_1 p0_2_1 p0_3 p0_4 p0_5 p0_6 p0_7 p0_8 p0_9 p0_10 p0_11 p0_12 p0_13 → (∀ q : Nat, (q < p0 ∨ p0 + 8 ≤ q) → Ω_3 q = Ω q) → oW G A Ω_3 H → va_S A s.heap H locs → ∀ ls : Array Slot, lv_has ls 3 [(0, .ref p0), (1, .int x1), (2, .int x2_1)] → (f_X9_repair_L2 p0_0 x1 n_2 x2_1 p0_2_1) = R → W p l e (headSpec (wz yX9_repair cX9_repair 3 none) ({ frames := 1, cells := 0, slots := 0, locals := 20 } : Room)).room s m ([.ref p0, .int x1] : List Value).toArray below meth c H locs 0 0 (MQ below (va_Qv (fun (Ω1 : Om) => inMod G Ω1 p0 p0_0 p0_1 (R) p0_3 p0_4 p0_5 p0_6 p0_7 p0_8 p0_9 p0_10 p0_11 p0_12 p0_13 ∧ (∀ q : Nat, (q < p0 ∨ p0 + 8 ≤ q) → Ω1 q = Ω q)) (oB G A) A) ([.ref p0, .int x1] : List Value).toArray s 0 0 A) (F0 m 2 ls []) := by
    intro n_2
    induction n_2 with
    | zero =>
      intro x2_1 p0_2_1 Ω_3 H locs v_2_0 h_p0 hE hW hS ls hl hR
      exfalso
      omega
    | succ n_2 ih2 =>
      intro x2_1 p0_2_1 Ω_3 H locs v_2_0 h_p0 hE hW hS ls hl hR
      rw [f_X9_repair_L2] at hR
      refine lv_iload_n hx hb dX9_repair_2 rfl (lv_at hl 2 rfl) ?_
      refine lv_bipush (v := (12 : Int32)) hx hb dX9_repair_3 (by decide) ?_
      have j_5 : (12 : Int32).toInt = 12 := by decide
      refine lv_icmp_ge (tgt := 46) hx hb dX9_repair_5 (by decide) (fun c_4 => ?_) (fun c_4 => ?_)
      · rw [if_pos c_4] at hR
        have i_4 := rle c_4
        subst hR
        exact W.vret hx hb hr (fun t ht hW9 => ⟨⟨Ω_3, rfl, ⟨h_p0, hE⟩, by rw [oB, ht]; exact hW⟩, hS.F ht⟩) hS.2.2 dX9_repair_46
      · rw [if_neg c_4] at hR
        have i_4 := rnle c_4
        refine lv_aload_n hx hb dX9_repair_8 rfl (lv_at hl 0 rfl) ?_
        refine o_get hx hb hts hown hK hW (inMod_o h_p0) rfl ig9 2 (by decide) fl_X9_16 rfl dX9_repair_9 ?_
        refine lv_iload_n hx hb dX9_repair_12 rfl (lv_at hl 1 rfl) ?_
        refine lv_bipush (v := (12 : Int32)) hx hb dX9_repair_13 (by decide) ?_
        refine lv_iadd hx hb dX9_repair_15 ?_
        refine lv_iload_n hx hb dX9_repair_16 rfl (lv_at hl 2 rfl) ?_
        refine lv_iadd hx hb dX9_repair_17 ?_
        refine lv_iload_n hx hb dX9_repair_18 rfl (lv_at hl 2 rfl) ?_
        refine lv_aload_n hx hb dX9_repair_19 rfl (lv_at hl 0 rfl) ?_
        refine o_ViR (rest := [.int x2_1, .int ((x1 + (12 : Int32)) + x2_1), .ref (p0 + 3)]) (As := []) (n := 0) hx hb hml hown hts hK hN hZ hW hS hA (c_X9_fields l G A Ω_3 p0 p0_0 p0_1 p0_2_1 p0_3 p0_4 p0_5 p0_6 p0_7 p0_8 p0_9 p0_10 p0_11 p0_12 p0_13 hM_p0 h_p0) (inMod_o h_p0) rfl (good_V ml_X9_35 im_X9_fields se_X9_fields ini_X9 co_X9_fields) (by decide +kernel) ⟨Nat.zero_le _, Nat.zero_le _⟩ hl.1 (Nat.le_of_ble_eq_true rfl) rfl rfl dX9_repair_20 (fun r H locs hp hW hS => ?_)
        subst hp
        try have j_8 : 0 ≤ (f_X9_fields p0_0).toInt ∧ (f_X9_fields p0_0).toInt ≤ 12 := TI_91 hM_p0
        refine lv_icmp_ge (tgt := 38) hx hb dX9_repair_23 (by decide) (fun c_7 => ?_) (fun c_7 => ?_)
        · rw [if_pos c_7] at hR
          have i_7 := rle c_7
          refine lv_iconst (v := (0 : Int32)) hx hb dX9_repair_38 (by decide) ?_
          try have j_9 : (x1 + (12 : Int32)).toInt = x1.toInt + (12 : Int32).toInt := fb_addI (by omega) (by omega)
          try have j_10 : ((x1 + (12 : Int32)) + x2_1).toInt = (x1 + (12 : Int32)).toInt + x2_1.toInt := fb_addI (by omega) (by omega)
          refine wMod_2 hx hb hK hW hS hA h_p0 (vp_in_iff.mpr ⟨by omega, by omega⟩) dX9_repair_39 (fun Ω_11 H locs h_p0 hF_11 hW hS => ?_)
          have hE : ∀ q : Nat, (q < p0 ∨ p0 + 8 ≤ q) → Ω_11 q = Ω q := fun q g0 => (hF_11 q (by omega)).trans (hE q g0)
          refine lv_iinc (v := (x2_1 + (1 : Int32))) (lv' := [(2, .int (x2_1 + (1 : Int32))), (0, .ref p0), (1, .int x1)]) hx hb dX9_repair_40 hl (k := 2) rfl rfl (by decide) rfl (fun ls hl => ?_)
          refine lv_goto (tgt := 2) hx hb dX9_repair_43 (by decide) ?_
          have j_12 : (1 : Int32).toInt = 1 := by decide
          try have j_13 : (x2_1 + (1 : Int32)).toInt = x2_1.toInt + (1 : Int32).toInt := fb_addI (by omega) (by omega)
          exact ih2 (x2_1 + (1 : Int32)) (upd p0_2_1 ((x1 + (12 : Int32)) + x2_1).toNatClampNeg (0 : Int32)) Ω_11 H locs (by omega) h_p0 hE hW hS ls (lv_sub hl [1, 2, 0] rfl) hR
        · rw [if_neg c_7] at hR
          have i_7 := rnle c_7
          refine lv_aload_n hx hb dX9_repair_26 rfl (lv_at hl 0 rfl) ?_
          refine o_get hx hb hts hown hK hW (inMod_o h_p0) rfl ig9 0 (by decide) fl_X9_7 rfl dX9_repair_27 ?_
          refine lv_bipush (v := (54 : Int32)) hx hb dX9_repair_30 (by decide) ?_
          refine lv_iload_n hx hb dX9_repair_32 rfl (lv_at hl 2 rfl) ?_
          refine lv_iadd hx hb dX9_repair_33 ?_
          have j_14 : (54 : Int32).toInt = 54 := by decide
          try have j_15 : ((54 : Int32) + x2_1).toInt = (54 : Int32).toInt + x2_1.toInt := fb_addI (by omega) (by omega)
          refine o_iald hx hb hK hW (inMod_a0 h_p0) (vp_in_iff.mpr ⟨by omega, by omega⟩) dX9_repair_34 ?_
          refine lv_goto (tgt := 39) hx hb dX9_repair_35 (by decide) ?_
          try have j_16 : (x1 + (12 : Int32)).toInt = x1.toInt + (12 : Int32).toInt := fb_addI (by omega) (by omega)
          try have j_17 : ((x1 + (12 : Int32)) + x2_1).toInt = (x1 + (12 : Int32)).toInt + x2_1.toInt := fb_addI (by omega) (by omega)
          refine wMod_2 hx hb hK hW hS hA h_p0 (vp_in_iff.mpr ⟨by omega, by omega⟩) dX9_repair_39 (fun Ω_18 H locs h_p0 hF_18 hW hS => ?_)
          have hE : ∀ q : Nat, (q < p0 ∨ p0 + 8 ≤ q) → Ω_18 q = Ω q := fun q g0 => (hF_18 q (by omega)).trans (hE q g0)
          refine lv_iinc (v := (x2_1 + (1 : Int32))) (lv' := [(2, .int (x2_1 + (1 : Int32))), (0, .ref p0), (1, .int x1)]) hx hb dX9_repair_40 hl (k := 2) rfl rfl (by decide) rfl (fun ls hl => ?_)
          refine lv_goto (tgt := 2) hx hb dX9_repair_43 (by decide) ?_
          have j_19 : (1 : Int32).toInt = 1 := by decide
          try have j_20 : (x2_1 + (1 : Int32)).toInt = x2_1.toInt + (1 : Int32).toInt := fb_addI (by omega) (by omega)
          exact ih2 (x2_1 + (1 : Int32)) (upd p0_2_1 ((x1 + (12 : Int32)) + x2_1).toNatClampNeg (p0_0 ((54 : Int32) + x2_1).toNatClampNeg)) Ω_18 H locs (by omega) h_p0 hE hW hS ls (lv_sub hl [1, 2, 0] rfl) hR
  have j_21 : (0 : Int32).toInt = 0 := by decide
  exact L2 4000 (0 : Int32) p0_2 Ω s.heap [] (by omega) h_p0 hE hW hS ls (lv_sub hl [1, 2, 0] rfl) hR
set_option maxHeartbeats 4000000 in
set_option maxRecDepth 100000 in
theorem c_X9_emptyLog (l : Launch) (G : Gm) (A : Nat → Prop) (Ω : Om) (p0 : Nat) (p0_0 : Fn) (p0_1 : Fn) (p0_2 : Fn) (p0_3 : Fn) (p0_4 : Int32) (p0_5 : Fn) (p0_6 : Fn) (p0_7 : Fn) (p0_8 : Int32) (p0_9 : Int32) (p0_10 : Int32) (p0_11 : Int32) (p0_12 : Int32) (p0_13 : Int32) (h_p0 : inMod G Ω p0 p0_0 p0_1 p0_2 p0_3 p0_4 p0_5 p0_6 p0_7 p0_8 p0_9 p0_10 p0_11 p0_12 p0_13) : Met l yX9_emptyLog (wz yX9_emptyLog cX9_emptyLog 1 none) ({ frames := 0, cells := 0, slots := 0, locals := 0 } : Room) (va_Pc [.ref p0] (oS G A Ω)) (va_Qv (fun (Ω1 : Om) => inMod G Ω1 p0 p0_0 p0_1 ((f_X9_emptyLog p0_2)) p0_3 p0_4 p0_5 p0_6 p0_7 p0_8 p0_9 p0_10 p0_11 p0_12 p0_13 ∧ (∀ q : Nat, (q < p0 ∨ p0 + 8 ≤ q) → Ω1 q = Ω q)) (oB G A) A) 0 0 A := by
  refine Met.ofW (cc := cX9_emptyLog) (maxL := 1) (ret := none) (by decide) rfl ?_
  intro p e s m args below meth c s₁ B hml hv
  obtain ⟨rfl, hW, hK, hN, hZ⟩ := hv
  have hx := B.exec
  have hb := B.bytes
  have hr := B.returns
  have hts : ∀ w ∈ gt, w.before _ s = true := fun w hw => atoms_spec (ws := wz yX9_emptyLog cX9_emptyLog 1 none) B.pre w (List.mem_cons_of_mem _ hw)
  have hown : s.vm.findClass RX9 = some m.cls := findClass_of_methodNamed B.named
  have hlocks := B.notSynchronized
  have hA : ∀ q, A q → A q := fun _ h => h
  have hS : va_S A s.heap s.heap [] := va_S.rf
  have hS0 := hS
  have hl := lv_entry ([.ref p0]) (n := 1) (Nat.le_of_ble_eq_true rfl)
  rw [lg_entry_eq]
  generalize (lg_sl ([.ref p0]) ++ List.replicate (1 - (lg_sl ([.ref p0])).length) Slot.unset).toArray = ls at hl ⊢
  have hl : lv_has ls 1 [(0, .ref p0)] := hl
  have hE : ∀ q : Nat, (q < p0 ∨ p0 + 8 ≤ q) → Ω q = Ω q := by intros; rfl
  generalize hR : (f_X9_emptyLog p0_2) = R
  rw [f_X9_emptyLog] at hR
  refine lv_aload_n hx hb dX9_emptyLog_0 rfl (lv_at hl 0 rfl) ?_
  refine o_get hx hb hts hown hK hW (inMod_o h_p0) rfl ig9 2 (by decide) fl_X9_16 rfl dX9_emptyLog_1 ?_
  refine lv_bipush (v := (72 : Int32)) hx hb dX9_emptyLog_4 (by decide) ?_
  refine lv_iconst (v := (0 : Int32)) hx hb dX9_emptyLog_6 (by decide) ?_
  have j_1 : (72 : Int32).toInt = 72 := by decide
  refine wMod_2 hx hb hK hW hS hA h_p0 (vp_in_iff.mpr ⟨by omega, by omega⟩) dX9_emptyLog_7 (fun Ω_2 H locs h_p0 hF_2 hW hS => ?_)
  have hE : ∀ q : Nat, (q < p0 ∨ p0 + 8 ≤ q) → Ω_2 q = Ω q := fun q g0 => (hF_2 q (by omega)).trans (hE q g0)
  refine lv_aload_n hx hb dX9_emptyLog_8 rfl (lv_at hl 0 rfl) ?_
  refine o_get hx hb hts hown hK hW (inMod_o h_p0) rfl ig9 2 (by decide) fl_X9_16 rfl dX9_emptyLog_9 ?_
  refine lv_sipush (v := (133 : Int32)) hx hb dX9_emptyLog_12 (by decide) ?_
  refine lv_iconst (v := (0 : Int32)) hx hb dX9_emptyLog_15 (by decide) ?_
  have j_3 : (133 : Int32).toInt = 133 := by decide
  refine wMod_2 hx hb hK hW hS hA h_p0 (vp_in_iff.mpr ⟨by omega, by omega⟩) dX9_emptyLog_16 (fun Ω_4 H locs h_p0 hF_4 hW hS => ?_)
  have hE : ∀ q : Nat, (q < p0 ∨ p0 + 8 ≤ q) → Ω_4 q = Ω q := fun q g0 => (hF_4 q (by omega)).trans (hE q g0)
  refine lv_aload_n hx hb dX9_emptyLog_17 rfl (lv_at hl 0 rfl) ?_
  refine o_get hx hb hts hown hK hW (inMod_o h_p0) rfl ig9 2 (by decide) fl_X9_16 rfl dX9_emptyLog_18 ?_
  refine lv_sipush (v := (134 : Int32)) hx hb dX9_emptyLog_21 (by decide) ?_
  refine lv_bipush (v := (-9 : Int32)) hx hb dX9_emptyLog_24 (by decide) ?_
  have j_5 : (134 : Int32).toInt = 134 := by decide
  refine wMod_2 hx hb hK hW hS hA h_p0 (vp_in_iff.mpr ⟨by omega, by omega⟩) dX9_emptyLog_26 (fun Ω_6 H locs h_p0 hF_6 hW hS => ?_)
  have hE : ∀ q : Nat, (q < p0 ∨ p0 + 8 ≤ q) → Ω_6 q = Ω q := fun q g0 => (hF_6 q (by omega)).trans (hE q g0)
  subst hR
  exact W.vret hx hb hr (fun t ht hW9 => ⟨⟨Ω_6, rfl, ⟨h_p0, hE⟩, by rw [oB, ht]; exact hW⟩, hS.F ht⟩) hS.2.2 dX9_emptyLog_27
set_option maxHeartbeats 4000000 in
set_option maxRecDepth 100000 in
theorem c_X9_begin (l : Launch) (G : Gm) (A : Nat → Prop) (Ω : Om) (p0 : Nat) (p0_0 : Fn) (p0_1 : Fn) (p0_2 : Fn) (p0_3 : Fn) (p0_4 : Int32) (p0_5 : Fn) (p0_6 : Fn) (p0_7 : Fn) (p0_8 : Int32) (p0_9 : Int32) (p0_10 : Int32) (p0_11 : Int32) (p0_12 : Int32) (p0_13 : Int32) (hM_p0 : ToldInv p0_0) (h_p0 : inMod G Ω p0 p0_0 p0_1 p0_2 p0_3 p0_4 p0_5 p0_6 p0_7 p0_8 p0_9 p0_10 p0_11 p0_12 p0_13) : Met l yX9_begin (wz yX9_begin cX9_begin 1 none) ({ frames := 2, cells := 0, slots := 0, locals := 42 } : Room) (va_Pc [.ref p0] (oS G A Ω)) (va_Qv (fun (Ω1 : Om) => inMod G Ω1 p0 p0_0 p0_1 ((f_X9_begin p0_0 p0_2 p0_6).1) p0_3 ((f_X9_begin p0_0 p0_2 p0_6).2.1) p0_5 ((f_X9_begin p0_0 p0_2 p0_6).2.2) p0_7 p0_8 p0_9 p0_10 p0_11 p0_12 p0_13 ∧ (∀ q : Nat, (q < p0 ∨ p0 + 8 ≤ q) → Ω1 q = Ω q)) (oB G A) A) 0 0 A := by
  refine Met.ofW (cc := cX9_begin) (maxL := 1) (ret := none) (by decide) rfl ?_
  intro p e s m args below meth c s₁ B hml hv
  obtain ⟨rfl, hW, hK, hN, hZ⟩ := hv
  have hx := B.exec
  have hb := B.bytes
  have hr := B.returns
  have hts : ∀ w ∈ gt, w.before _ s = true := fun w hw => atoms_spec (ws := wz yX9_begin cX9_begin 1 none) B.pre w (List.mem_cons_of_mem _ hw)
  have hown : s.vm.findClass RX9 = some m.cls := findClass_of_methodNamed B.named
  have hlocks := B.notSynchronized
  have hA : ∀ q, A q → A q := fun _ h => h
  have hS : va_S A s.heap s.heap [] := va_S.rf
  have hS0 := hS
  have hl := lv_entry ([.ref p0]) (n := 1) (Nat.le_of_ble_eq_true rfl)
  rw [lg_entry_eq]
  generalize (lg_sl ([.ref p0]) ++ List.replicate (1 - (lg_sl ([.ref p0])).length) Slot.unset).toArray = ls at hl ⊢
  have hl : lv_has ls 1 [(0, .ref p0)] := hl
  have hE : ∀ q : Nat, (q < p0 ∨ p0 + 8 ≤ q) → Ω q = Ω q := by intros; rfl
  generalize hR : (f_X9_begin p0_0 p0_2 p0_6) = R
  rw [f_X9_begin] at hR
  refine lv_aload_n hx hb dX9_begin_0 rfl (lv_at hl 0 rfl) ?_
  refine lv_iconst (v := (0 : Int32)) hx hb dX9_begin_1 (by decide) ?_
  have j_1 : (0 : Int32).toInt = 0 := by decide
  refine o_Vv (rest := []) (As := [.int (0 : Int32)]) (n := 1) hx hb hml hown hts hK hN hZ hW hS hA (c_X9_repair l G A Ω p0 p0_0 p0_1 p0_2 p0_3 p0_4 p0_5 p0_6 p0_7 p0_8 p0_9 p0_10 p0_11 p0_12 p0_13 (0 : Int32) hM_p0 (by omega) h_p0) (inMod_o h_p0) rfl (good_V ml_X9_50 im_X9_repair se_X9_repair ini_X9 co_X9_repair) (by decide +kernel) ⟨Nat.zero_le _, Nat.zero_le _⟩ hl.1 (Nat.le_of_ble_eq_true rfl) rfl rfl dX9_begin_2 (fun Ω_2 H locs hp hW hS => ?_)
  obtain ⟨h_p0, hF_2⟩ := hp
  have hE : ∀ q : Nat, (q < p0 ∨ p0 + 8 ≤ q) → Ω_2 q = Ω q := fun q g0 => (hF_2 q (by omega)).trans (hE q g0)
  have q72_2 : ((f_X9_repair p0_0 p0_2 (0 : Int32)) (72 : Int32).toNatClampNeg).toInt = (p0_2 (72 : Int32).toNatClampNeg).toInt := congrArg Int32.toInt (FR_repair (j := 72) (by omega) (by omega))
  refine lv_aload_n hx hb dX9_begin_5 rfl (lv_at hl 0 rfl) ?_
  refine lv_bipush (v := (36 : Int32)) hx hb dX9_begin_6 (by decide) ?_
  have j_3 : (36 : Int32).toInt = 36 := by decide
  refine o_Vv (rest := []) (As := [.int (36 : Int32)]) (n := 1) hx hb hml hown hts hK hN hZ hW hS hA (c_X9_repair l G A Ω_2 p0 p0_0 p0_1 (f_X9_repair p0_0 p0_2 (0 : Int32)) p0_3 p0_4 p0_5 p0_6 p0_7 p0_8 p0_9 p0_10 p0_11 p0_12 p0_13 (36 : Int32) hM_p0 (by omega) h_p0) (inMod_o h_p0) rfl (good_V ml_X9_50 im_X9_repair se_X9_repair ini_X9 co_X9_repair) (by decide +kernel) ⟨Nat.zero_le _, Nat.zero_le _⟩ hl.1 (Nat.le_of_ble_eq_true rfl) rfl rfl dX9_begin_8 (fun Ω_4 H locs hp hW hS => ?_)
  obtain ⟨h_p0, hF_4⟩ := hp
  have hE : ∀ q : Nat, (q < p0 ∨ p0 + 8 ≤ q) → Ω_4 q = Ω q := fun q g0 => (hF_4 q (by omega)).trans (hE q g0)
  have q72_4 : ((f_X9_repair p0_0 (f_X9_repair p0_0 p0_2 (0 : Int32)) (36 : Int32)) (72 : Int32).toNatClampNeg).toInt = ((f_X9_repair p0_0 p0_2 (0 : Int32)) (72 : Int32).toNatClampNeg).toInt := congrArg Int32.toInt (FR_repair (j := 72) (by omega) (by omega))
  refine lv_aload_n hx hb dX9_begin_11 rfl (lv_at hl 0 rfl) ?_
  refine lv_iconst (v := (0 : Int32)) hx hb dX9_begin_12 (by decide) ?_
  refine o_Vv (rest := []) (As := [.int (0 : Int32)]) (n := 1) hx hb hml hown hts hK hN hZ hW hS hA (c_X9_reset l G A Ω_4 p0 p0_0 p0_1 (f_X9_repair p0_0 (f_X9_repair p0_0 p0_2 (0 : Int32)) (36 : Int32)) p0_3 p0_4 p0_5 p0_6 p0_7 p0_8 p0_9 p0_10 p0_11 p0_12 p0_13 (0 : Int32) hM_p0 (by omega) h_p0) (inMod_o h_p0) rfl (good_V ml_X9_54 im_X9_reset se_X9_reset ini_X9 co_X9_reset) (by decide +kernel) ⟨Nat.zero_le _, Nat.zero_le _⟩ hl.1 (Nat.le_of_ble_eq_true rfl) rfl rfl dX9_begin_13 (fun Ω_5 H locs hp hW hS => ?_)
  obtain ⟨h_p0, hF_5⟩ := hp
  have hE : ∀ q : Nat, (q < p0 ∨ p0 + 8 ≤ q) → Ω_5 q = Ω q := fun q g0 => (hF_5 q (by omega)).trans (hE q g0)
  have q72_5 : ((f_X9_reset p0_0 (f_X9_repair p0_0 (f_X9_repair p0_0 p0_2 (0 : Int32)) (36 : Int32)) (0 : Int32)) (72 : Int32).toNatClampNeg).toInt = ((f_X9_repair p0_0 (f_X9_repair p0_0 p0_2 (0 : Int32)) (36 : Int32)) (72 : Int32).toNatClampNeg).toInt := congrArg Int32.toInt (FR_reset (j := 72) (by omega) (by omega))
  refine lv_aload_n hx hb dX9_begin_16 rfl (lv_at hl 0 rfl) ?_
  refine lv_bipush (v := (36 : Int32)) hx hb dX9_begin_17 (by decide) ?_
  refine o_Vv (rest := []) (As := [.int (36 : Int32)]) (n := 1) hx hb hml hown hts hK hN hZ hW hS hA (c_X9_reset l G A Ω_5 p0 p0_0 p0_1 (f_X9_reset p0_0 (f_X9_repair p0_0 (f_X9_repair p0_0 p0_2 (0 : Int32)) (36 : Int32)) (0 : Int32)) p0_3 p0_4 p0_5 p0_6 p0_7 p0_8 p0_9 p0_10 p0_11 p0_12 p0_13 (36 : Int32) hM_p0 (by omega) h_p0) (inMod_o h_p0) rfl (good_V ml_X9_54 im_X9_reset se_X9_reset ini_X9 co_X9_reset) (by decide +kernel) ⟨Nat.zero_le _, Nat.zero_le _⟩ hl.1 (Nat.le_of_ble_eq_true rfl) rfl rfl dX9_begin_19 (fun Ω_6 H locs hp hW hS => ?_)
  obtain ⟨h_p0, hF_6⟩ := hp
  have hE : ∀ q : Nat, (q < p0 ∨ p0 + 8 ≤ q) → Ω_6 q = Ω q := fun q g0 => (hF_6 q (by omega)).trans (hE q g0)
  have q72_6 : ((f_X9_reset p0_0 (f_X9_reset p0_0 (f_X9_repair p0_0 (f_X9_repair p0_0 p0_2 (0 : Int32)) (36 : Int32)) (0 : Int32)) (36 : Int32)) (72 : Int32).toNatClampNeg).toInt = ((f_X9_reset p0_0 (f_X9_repair p0_0 (f_X9_repair p0_0 p0_2 (0 : Int32)) (36 : Int32)) (0 : Int32)) (72 : Int32).toNatClampNeg).toInt := congrArg Int32.toInt (FR_reset (j := 72) (by omega) (by omega))
  refine lv_aload_n hx hb dX9_begin_22 rfl (lv_at hl 0 rfl) ?_
  refine o_Vv (rest := []) (As := []) (n := 0) hx hb hml hown hts hK hN hZ hW hS hA (c_X9_emptyLog l G A Ω_6 p0 p0_0 p0_1 (f_X9_reset p0_0 (f_X9_reset p0_0 (f_X9_repair p0_0 (f_X9_repair p0_0 p0_2 (0 : Int32)) (36 : Int32)) (0 : Int32)) (36 : Int32)) p0_3 p0_4 p0_5 p0_6 p0_7 p0_8 p0_9 p0_10 p0_11 p0_12 p0_13 h_p0) (inMod_o h_p0) rfl (good_V ml_X9_57 im_X9_emptyLog se_X9_emptyLog ini_X9 co_X9_emptyLog) (by decide +kernel) ⟨Nat.zero_le _, Nat.zero_le _⟩ hl.1 (Nat.le_of_ble_eq_true rfl) rfl rfl dX9_begin_23 (fun Ω_7 H locs hp hW hS => ?_)
  obtain ⟨h_p0, hF_7⟩ := hp
  have hE : ∀ q : Nat, (q < p0 ∨ p0 + 8 ≤ q) → Ω_7 q = Ω q := fun q g0 => (hF_7 q (by omega)).trans (hE q g0)
  refine lv_aload_n hx hb dX9_begin_26 rfl (lv_at hl 0 rfl) ?_
  refine lv_iconst (v := (0 : Int32)) hx hb dX9_begin_27 (by decide) ?_
  refine vMod_4 hx hb hts hown hK hW hS hA h_p0 fl_X9_60 dX9_begin_28 (fun Ω_8 H locs h_p0 hF_8 hW hS => ?_)
  have hE : ∀ q : Nat, (q < p0 ∨ p0 + 8 ≤ q) → Ω_8 q = Ω q := fun q g0 => (hF_8 q (by omega)).trans (hE q g0)
  refine lv_aload_n hx hb dX9_begin_31 rfl (lv_at hl 0 rfl) ?_
  refine o_get hx hb hts hown hK hW (inMod_o h_p0) rfl ig9 6 (by decide) fl_X9_25 rfl dX9_begin_32 ?_
  refine lv_iconst (v := (0 : Int32)) hx hb dX9_begin_35 (by decide) ?_
  refine lv_iconst (v := (0 : Int32)) hx hb dX9_begin_36 (by decide) ?_
  refine wMod_5 hx hb hK hW hS hA h_p0 (vp_in_iff.mpr ⟨by omega, by omega⟩) dX9_begin_37 (fun Ω_9 H locs h_p0 hF_9 hW hS => ?_)
  have hE : ∀ q : Nat, (q < p0 ∨ p0 + 8 ≤ q) → Ω_9 q = Ω q := fun q g0 => (hF_9 q (by omega)).trans (hE q g0)
  refine lv_aload_n hx hb dX9_begin_38 rfl (lv_at hl 0 rfl) ?_
  refine o_get hx hb hts hown hK hW (inMod_o h_p0) rfl ig9 6 (by decide) fl_X9_25 rfl dX9_begin_39 ?_
  refine lv_iconst (v := (1 : Int32)) hx hb dX9_begin_42 (by decide) ?_
  refine lv_iconst (v := (0 : Int32)) hx hb dX9_begin_43 (by decide) ?_
  have j_10 : (1 : Int32).toInt = 1 := by decide
  refine wMod_5 hx hb hK hW hS hA h_p0 (vp_in_iff.mpr ⟨by omega, by omega⟩) dX9_begin_44 (fun Ω_11 H locs h_p0 hF_11 hW hS => ?_)
  have hE : ∀ q : Nat, (q < p0 ∨ p0 + 8 ≤ q) → Ω_11 q = Ω q := fun q g0 => (hF_11 q (by omega)).trans (hE q g0)
  subst hR
  exact W.vret hx hb hr (fun t ht hW9 => ⟨⟨Ω_11, rfl, ⟨h_p0, hE⟩, by rw [oB, ht]; exact hW⟩, hS.F ht⟩) hS.2.2 dX9_begin_45
set_option maxHeartbeats 4000000 in
set_option maxRecDepth 100000 in
theorem c_X9_isLocked (l : Launch) (G : Gm) (A : Nat → Prop) (Ω : Om) (p0 : Nat) (p0_0 : Fn) (p0_1 : Fn) (p0_2 : Fn) (p0_3 : Fn) (p0_4 : Int32) (p0_5 : Fn) (p0_6 : Fn) (p0_7 : Fn) (p0_8 : Int32) (p0_9 : Int32) (p0_10 : Int32) (p0_11 : Int32) (p0_12 : Int32) (p0_13 : Int32) (x1 : Int32) (x2 : Int32) (hM_p0 : ToldInv p0_0) (hi_x2 : 0 ≤ x2.toInt ∧ x2.toInt < 6) (hm : 0 ≤ x1.toInt ∧ x1.toInt ≤ 135) (h_p0 : inMod G Ω p0 p0_0 p0_1 p0_2 p0_3 p0_4 p0_5 p0_6 p0_7 p0_8 p0_9 p0_10 p0_11 p0_12 p0_13) : Met l yX9_isLocked (wz yX9_isLocked cX9_isLocked 3 (some .boolean)) ({ frames := 0, cells := 0, slots := 0, locals := 0 } : Room) (va_Pc [.ref p0, .int x1, .int x2] (oS G A Ω)) (va_Qi (fun (r : Int32) (Ω1 : Om) => (r = (f_X9_isLocked p0_0 p0_2 x1 x2) ∧ (r = 0 ∨ r = 1)) ∧ Ω1 = Ω) (oB G A) A) 0 0 A := by
  refine Met.ofW (cc := cX9_isLocked) (maxL := 3) (ret := (some .boolean)) (by decide) rfl ?_
  intro p e s m args below meth c s₁ B hml hv
  obtain ⟨rfl, hW, hK, hN, hZ⟩ := hv
  have hx := B.exec
  have hb := B.bytes
  have hr := B.returns
  have hts : ∀ w ∈ gt, w.before _ s = true := fun w hw => atoms_spec (ws := wz yX9_isLocked cX9_isLocked 3 (some .boolean)) B.pre w (List.mem_cons_of_mem _ hw)
  have hown : s.vm.findClass RX9 = some m.cls := findClass_of_methodNamed B.named
  have hlocks := B.notSynchronized
  have hA : ∀ q, A q → A q := fun _ h => h
  have hS : va_S A s.heap s.heap [] := va_S.rf
  have hS0 := hS
  have hl := lv_entry ([.ref p0, .int x1, .int x2]) (n := 3) (Nat.le_of_ble_eq_true rfl)
  rw [lg_entry_eq]
  generalize (lg_sl ([.ref p0, .int x1, .int x2]) ++ List.replicate (3 - (lg_sl ([.ref p0, .int x1, .int x2])).length) Slot.unset).toArray = ls at hl ⊢
  have hl : lv_has ls 3 [(0, .ref p0), (1, .int x1), (2, .int x2)] := hl
  generalize hR : (f_X9_isLocked p0_0 p0_2 x1 x2) = R
  rw [f_X9_isLocked] at hR
  refine lv_aload_n hx hb dX9_isLocked_0 rfl (lv_at hl 0 rfl) ?_
  refine o_get hx hb hts hown hK hW (inMod_o h_p0) rfl ig9 0 (by decide) fl_X9_7 rfl dX9_isLocked_1 ?_
  refine lv_bipush (v := (6 : Int32)) hx hb dX9_isLocked_4 (by decide) ?_
  refine lv_iload_n hx hb dX9_isLocked_6 rfl (lv_at hl 2 rfl) ?_
  refine lv_iadd hx hb dX9_isLocked_7 ?_
  have j_1 : (6 : Int32).toInt = 6 := by decide
  try have j_2 : ((6 : Int32) + x2).toInt = (6 : Int32).toInt + x2.toInt := fb_addI (by omega) (by omega)
  refine o_iald hx hb hK hW (inMod_a0 h_p0) (vp_in_iff.mpr ⟨by omega, by omega⟩) dX9_isLocked_8 ?_
  refine lv_bipush (v := (-9 : Int32)) hx hb dX9_isLocked_9 (by decide) ?_
  try have j_4 : (p0_0 ((6 : Int32) + x2).toNatClampNeg).toInt = -9 ∨ (0 ≤ (p0_0 ((6 : Int32) + x2).toNatClampNeg).toInt ∧ (p0_0 ((6 : Int32) + x2).toNatClampNeg).toInt < 12) := TI_6 hM_p0 (by omega) (by omega)
  have j_5 : (-9 : Int32).toInt = -9 := by decide
  refine lv_icmp_eq (tgt := 37) hx hb dX9_isLocked_11 (by decide) (fun c_3 => ?_) (fun c_3 => ?_)
  · rw [if_pos c_3] at hR
    have i_3 := congrArg Int32.toInt c_3
    refine lv_iconst (v := (0 : Int32)) hx hb dX9_isLocked_37 (by decide) ?_
    subst hR
    exact W.zret (v := (0 : Int32)) hx hb hr (nb01 (Or.inl rfl)) (fun t ht hW9 => ⟨⟨(0 : Int32), Ω, rfl, ⟨⟨rfl, (Or.inl rfl)⟩, rfl⟩, by rw [oB, ht]; exact hW⟩, hS.F ht⟩) hS.2.2 dX9_isLocked_38
  · rw [if_neg c_3] at hR
    have i_3 := rne c_3
    refine lv_aload_n hx hb dX9_isLocked_14 rfl (lv_at hl 0 rfl) ?_
    refine o_get hx hb hts hown hK hW (inMod_o h_p0) rfl ig9 2 (by decide) fl_X9_16 rfl dX9_isLocked_15 ?_
    refine lv_iload_n hx hb dX9_isLocked_18 rfl (lv_at hl 1 rfl) ?_
    refine lv_aload_n hx hb dX9_isLocked_19 rfl (lv_at hl 0 rfl) ?_
    refine o_get hx hb hts hown hK hW (inMod_o h_p0) rfl ig9 0 (by decide) fl_X9_7 rfl dX9_isLocked_20 ?_
    refine lv_bipush (v := (6 : Int32)) hx hb dX9_isLocked_23 (by decide) ?_
    refine lv_iload_n hx hb dX9_isLocked_25 rfl (lv_at hl 2 rfl) ?_
    refine lv_iadd hx hb dX9_isLocked_26 ?_
    refine o_iald hx hb hK hW (inMod_a0 h_p0) (vp_in_iff.mpr ⟨by omega, by omega⟩) dX9_isLocked_27 ?_
    refine lv_iadd hx hb dX9_isLocked_28 ?_
    try have j_6 : (x1 + (p0_0 ((6 : Int32) + x2).toNatClampNeg)).toInt = x1.toInt + (p0_0 ((6 : Int32) + x2).toNatClampNeg).toInt := fb_addI (by omega) (by omega)
    refine o_iald hx hb hK hW (inMod_a2 h_p0) (vp_in_iff.mpr ⟨by omega, by omega⟩) dX9_isLocked_29 ?_
    have j_8 : (0 : Int32).toInt = 0 := by decide
    refine lv_if_eq (tgt := 37) hx hb dX9_isLocked_30 (by decide) (fun c_7 => ?_) (fun c_7 => ?_)
    · rw [if_pos c_7] at hR
      have i_7 := congrArg Int32.toInt c_7
      refine lv_iconst (v := (0 : Int32)) hx hb dX9_isLocked_37 (by decide) ?_
      subst hR
      exact W.zret (v := (0 : Int32)) hx hb hr (nb01 (Or.inl rfl)) (fun t ht hW9 => ⟨⟨(0 : Int32), Ω, rfl, ⟨⟨rfl, (Or.inl rfl)⟩, rfl⟩, by rw [oB, ht]; exact hW⟩, hS.F ht⟩) hS.2.2 dX9_isLocked_38
    · rw [if_neg c_7] at hR
      have i_7 := rne c_7
      refine lv_iconst (v := (1 : Int32)) hx hb dX9_isLocked_33 (by decide) ?_
      refine lv_goto (tgt := 38) hx hb dX9_isLocked_34 (by decide) ?_
      subst hR
      exact W.zret (v := (1 : Int32)) hx hb hr (nb01 (Or.inr rfl)) (fun t ht hW9 => ⟨⟨(1 : Int32), Ω, rfl, ⟨⟨rfl, (Or.inr rfl)⟩, rfl⟩, by rw [oB, ht]; exact hW⟩, hS.F ht⟩) hS.2.2 dX9_isLocked_38
set_option maxHeartbeats 4000000 in
set_option maxRecDepth 100000 in
theorem c_X9_goesTo (l : Launch) (G : Gm) (A : Nat → Prop) (Ω : Om) (p0 : Nat) (p0_0 : Fn) (p0_1 : Fn) (p0_2 : Fn) (p0_3 : Fn) (p0_4 : Int32) (p0_5 : Fn) (p0_6 : Fn) (p0_7 : Fn) (p0_8 : Int32) (p0_9 : Int32) (p0_10 : Int32) (p0_11 : Int32) (p0_12 : Int32) (p0_13 : Int32) (x1 : Int32) (hM_p0 : ToldInv p0_0) (h_p0 : inMod G Ω p0 p0_0 p0_1 p0_2 p0_3 p0_4 p0_5 p0_6 p0_7 p0_8 p0_9 p0_10 p0_11 p0_12 p0_13) : Met l yX9_goesTo (wz yX9_goesTo cX9_goesTo 3 (some .int)) ({ frames := 1, cells := 0, slots := 0, locals := 20 } : Room) (va_Pc [.ref p0, .int x1] (oS G A Ω)) (va_Qi (fun (r : Int32) (Ω1 : Om) => r = (f_X9_goesTo p0_0 x1) ∧ Ω1 = Ω) (oB G A) A) 0 0 A := by
  refine Met.ofW (cc := cX9_goesTo) (maxL := 3) (ret := (some .int)) (by decide) rfl ?_
  intro p e s m args below meth c s₁ B hml hv
  obtain ⟨rfl, hW, hK, hN, hZ⟩ := hv
  have hx := B.exec
  have hb := B.bytes
  have hr := B.returns
  have hts : ∀ w ∈ gt, w.before _ s = true := fun w hw => atoms_spec (ws := wz yX9_goesTo cX9_goesTo 3 (some .int)) B.pre w (List.mem_cons_of_mem _ hw)
  have hown : s.vm.findClass RX9 = some m.cls := findClass_of_methodNamed B.named
  have hlocks := B.notSynchronized
  have hA : ∀ q, A q → A q := fun _ h => h
  have hS : va_S A s.heap s.heap [] := va_S.rf
  have hS0 := hS
  have hl := lv_entry ([.ref p0, .int x1]) (n := 3) (Nat.le_of_ble_eq_true rfl)
  rw [lg_entry_eq]
  generalize (lg_sl ([.ref p0, .int x1]) ++ List.replicate (3 - (lg_sl ([.ref p0, .int x1])).length) Slot.unset).toArray = ls at hl ⊢
  have hl : lv_has ls 3 [(0, .ref p0), (1, .int x1)] := hl
  generalize hR : (f_X9_goesTo p0_0 x1) = R
  rw [f_X9_goesTo] at hR
  refine lv_iconst (v := (0 : Int32)) hx hb dX9_goesTo_0 (by decide) ?_
  refine lv_istore_n (lv' := [(2, .int (0 : Int32)), (0, .ref p0), (1, .int x1)]) hx hb dX9_goesTo_1 rfl hl (by decide) rfl (fun ls hl => ?_)
  have L2 : ∀ (n_2 : Nat) (x2_1 : Int32) (H : Heap) (locs : List Loc), (0 ≤ x2_1.toInt ∧ x2_1.toInt ≤ 6 ∧ 6 - x2_1.toInt < n_2) → oW G A Ω H → va_S A s.heap H locs → ∀ ls : Array Slot, lv_has ls 3 [(0, .ref p0), (1, .int x1), (2, .int x2_1)] → (f_X9_goesTo_L2 p0_0 x1 n_2 x2_1) = R → W p l e (headSpec (wz yX9_goesTo cX9_goesTo 3 (some .int)) ({ frames := 1, cells := 0, slots := 0, locals := 20 } : Room)).room s m ([.ref p0, .int x1] : List Value).toArray below meth c H locs 0 0 (MQ below (va_Qi (fun (r : Int32) (Ω1 : Om) => r = R ∧ Ω1 = Ω) (oB G A) A) ([.ref p0, .int x1] : List Value).toArray s 0 0 A) (F0 m 2 ls []) := by
    intro n_2
    induction n_2 with
    | zero =>
      intro x2_1 H locs v_2_0 hW hS ls hl hR
      exfalso
      omega
    | succ n_2 ih2 =>
      intro x2_1 H locs v_2_0 hW hS ls hl hR
      rw [f_X9_goesTo_L2] at hR
      refine lv_iload_n hx hb dX9_goesTo_2 rfl (lv_at hl 2 rfl) ?_
      refine lv_aload_n hx hb dX9_goesTo_3 rfl (lv_at hl 0 rfl) ?_
      refine o_ViR (rest := [.int x2_1]) (As := []) (n := 0) hx hb hml hown hts hK hN hZ hW hS hA (c_X9_registers l G A Ω p0 p0_0 p0_1 p0_2 p0_3 p0_4 p0_5 p0_6 p0_7 p0_8 p0_9 p0_10 p0_11 p0_12 p0_13 hM_p0 h_p0) (inMod_o h_p0) rfl (good_V ml_X9_43 im_X9_registers se_X9_registers ini_X9 co_X9_registers) (by decide +kernel) ⟨Nat.zero_le _, Nat.zero_le _⟩ hl.1 (Nat.le_of_ble_eq_true rfl) rfl rfl dX9_goesTo_4 (fun r H locs hp hW hS => ?_)
      subst hp
      try have j_5 : 0 ≤ (f_X9_registers p0_0).toInt ∧ (f_X9_registers p0_0).toInt ≤ 6 := TI_90 hM_p0
      refine lv_icmp_ge (tgt := 30) hx hb dX9_goesTo_7 (by decide) (fun c_4 => ?_) (fun c_4 => ?_)
      · rw [if_pos c_4] at hR
        have i_4 := rle c_4
        refine lv_iconst (v := (0 : Int32)) hx hb dX9_goesTo_30 (by decide) ?_
        refine lv_istore_n (lv' := [(2, .int (0 : Int32)), (0, .ref p0), (1, .int x1)]) hx hb dX9_goesTo_31 rfl hl (by decide) rfl (fun ls hl => ?_)
        have L32 : ∀ (n_7 : Nat) (x2_6 : Int32) (H : Heap) (locs : List Loc), (0 ≤ x2_6.toInt ∧ x2_6.toInt ≤ 92 ∧ 92 - x2_6.toInt < n_7) → oW G A Ω H → va_S A s.heap H locs → ∀ ls : Array Slot, lv_has ls 3 [(0, .ref p0), (1, .int x1), (2, .int x2_6)] → (f_X9_goesTo_L32 p0_0 x1 n_7 x2_6) = R → W p l e (headSpec (wz yX9_goesTo cX9_goesTo 3 (some .int)) ({ frames := 1, cells := 0, slots := 0, locals := 20 } : Room)).room s m ([.ref p0, .int x1] : List Value).toArray below meth c H locs 0 0 (MQ below (va_Qi (fun (r : Int32) (Ω1 : Om) => r = R ∧ Ω1 = Ω) (oB G A) A) ([.ref p0, .int x1] : List Value).toArray s 0 0 A) (F0 m 32 ls []) := by
          intro n_7
          induction n_7 with
          | zero =>
            intro x2_6 H locs v_32_0 hW hS ls hl hR
            exfalso
            omega
          | succ n_7 ih32 =>
            intro x2_6 H locs v_32_0 hW hS ls hl hR
            rw [f_X9_goesTo_L32] at hR
            refine lv_iload_n hx hb dX9_goesTo_32 rfl (lv_at hl 2 rfl) ?_
            refine lv_aload_n hx hb dX9_goesTo_33 rfl (lv_at hl 0 rfl) ?_
            refine o_get hx hb hts hown hK hW (inMod_o h_p0) rfl ig9 0 (by decide) fl_X9_7 rfl dX9_goesTo_34 ?_
            refine lv_bipush (v := (92 : Int32)) hx hb dX9_goesTo_37 (by decide) ?_
            have j_8 : (92 : Int32).toInt = 92 := by decide
            refine o_iald hx hb hK hW (inMod_a0 h_p0) (vp_in_iff.mpr ⟨by omega, by omega⟩) dX9_goesTo_39 ?_
            try have j_10 : 0 ≤ (p0_0 (92 : Int32).toNatClampNeg).toInt ∧ (p0_0 (92 : Int32).toNatClampNeg).toInt ≤ 4 := TI_92 hM_p0
            refine lv_icmp_ge (tgt := 67) hx hb dX9_goesTo_40 (by decide) (fun c_9 => ?_) (fun c_9 => ?_)
            · rw [if_pos c_9] at hR
              have i_9 := rle c_9
              refine lv_bipush (v := (-9 : Int32)) hx hb dX9_goesTo_67 (by decide) ?_
              subst hR
              exact W.iret (v := (-9 : Int32)) hx hb hr (fun t ht hW9 => ⟨⟨(-9 : Int32), Ω, rfl, ⟨rfl, rfl⟩, by rw [oB, ht]; exact hW⟩, hS.F ht⟩) hS.2.2 dX9_goesTo_69
            · rw [if_neg c_9] at hR
              have i_9 := rnle c_9
              refine lv_aload_n hx hb dX9_goesTo_43 rfl (lv_at hl 0 rfl) ?_
              refine o_get hx hb hts hown hK hW (inMod_o h_p0) rfl ig9 0 (by decide) fl_X9_7 rfl dX9_goesTo_44 ?_
              refine lv_bipush (v := (78 : Int32)) hx hb dX9_goesTo_47 (by decide) ?_
              refine lv_iload_n hx hb dX9_goesTo_49 rfl (lv_at hl 2 rfl) ?_
              refine lv_iadd hx hb dX9_goesTo_50 ?_
              have j_11 : (78 : Int32).toInt = 78 := by decide
              try have j_12 : ((78 : Int32) + x2_6).toInt = (78 : Int32).toInt + x2_6.toInt := fb_addI (by omega) (by omega)
              refine o_iald hx hb hK hW (inMod_a0 h_p0) (vp_in_iff.mpr ⟨by omega, by omega⟩) dX9_goesTo_51 ?_
              refine lv_iload_n hx hb dX9_goesTo_52 rfl (lv_at hl 1 rfl) ?_
              refine lv_icmp_ne (tgt := 61) hx hb dX9_goesTo_53 (by decide) (fun c_13 => ?_) (fun c_13 => ?_)
              · rw [if_neg c_13] at hR
                have i_13 := rne c_13
                refine lv_iinc (v := (x2_6 + (1 : Int32))) (lv' := [(2, .int (x2_6 + (1 : Int32))), (0, .ref p0), (1, .int x1)]) hx hb dX9_goesTo_61 hl (k := 2) rfl rfl (by decide) rfl (fun ls hl => ?_)
                refine lv_goto (tgt := 32) hx hb dX9_goesTo_64 (by decide) ?_
                have j_14 : (1 : Int32).toInt = 1 := by decide
                try have j_15 : (x2_6 + (1 : Int32)).toInt = x2_6.toInt + (1 : Int32).toInt := fb_addI (by omega) (by omega)
                exact ih32 (x2_6 + (1 : Int32)) H locs (by omega) hW hS ls (lv_sub hl [1, 2, 0] rfl) hR
              · rw [if_pos c_13] at hR
                have i_13 := congrArg Int32.toInt c_13
                refine lv_bipush (v := (100 : Int32)) hx hb dX9_goesTo_56 (by decide) ?_
                refine lv_iload_n hx hb dX9_goesTo_58 rfl (lv_at hl 2 rfl) ?_
                refine lv_iadd hx hb dX9_goesTo_59 ?_
                subst hR
                exact W.iret (v := ((100 : Int32) + x2_6)) hx hb hr (fun t ht hW9 => ⟨⟨((100 : Int32) + x2_6), Ω, rfl, ⟨rfl, rfl⟩, by rw [oB, ht]; exact hW⟩, hS.F ht⟩) hS.2.2 dX9_goesTo_60
        have j_16 : (0 : Int32).toInt = 0 := by decide
        exact L32 4000 (0 : Int32) H locs (by omega) hW hS ls (lv_sub hl [1, 2, 0] rfl) hR
      · rw [if_neg c_4] at hR
        have i_4 := rnle c_4
        refine lv_aload_n hx hb dX9_goesTo_10 rfl (lv_at hl 0 rfl) ?_
        refine o_get hx hb hts hown hK hW (inMod_o h_p0) rfl ig9 0 (by decide) fl_X9_7 rfl dX9_goesTo_11 ?_
        refine lv_iconst (v := (0 : Int32)) hx hb dX9_goesTo_14 (by decide) ?_
        refine lv_iload_n hx hb dX9_goesTo_15 rfl (lv_at hl 2 rfl) ?_
        refine lv_iadd hx hb dX9_goesTo_16 ?_
        have j_17 : (0 : Int32).toInt = 0 := by decide
        try have j_18 : ((0 : Int32) + x2_1).toInt = (0 : Int32).toInt + x2_1.toInt := fb_addI (by omega) (by omega)
        refine o_iald hx hb hK hW (inMod_a0 h_p0) (vp_in_iff.mpr ⟨by omega, by omega⟩) dX9_goesTo_17 ?_
        refine lv_iload_n hx hb dX9_goesTo_18 rfl (lv_at hl 1 rfl) ?_
        refine lv_icmp_ne (tgt := 24) hx hb dX9_goesTo_19 (by decide) (fun c_19 => ?_) (fun c_19 => ?_)
        · rw [if_neg c_19] at hR
          have i_19 := rne c_19
          refine lv_iinc (v := (x2_1 + (1 : Int32))) (lv' := [(2, .int (x2_1 + (1 : Int32))), (0, .ref p0), (1, .int x1)]) hx hb dX9_goesTo_24 hl (k := 2) rfl rfl (by decide) rfl (fun ls hl => ?_)
          refine lv_goto (tgt := 2) hx hb dX9_goesTo_27 (by decide) ?_
          have j_20 : (1 : Int32).toInt = 1 := by decide
          try have j_21 : (x2_1 + (1 : Int32)).toInt = x2_1.toInt + (1 : Int32).toInt := fb_addI (by omega) (by omega)
          exact ih2 (x2_1 + (1 : Int32)) H locs (by omega) hW hS ls (lv_sub hl [1, 2, 0] rfl) hR
        · rw [if_pos c_19] at hR
          have i_19 := congrArg Int32.toInt c_19
          refine lv_iload_n hx hb dX9_goesTo_22 rfl (lv_at hl 2 rfl) ?_
          subst hR
          exact W.iret (v := x2_1) hx hb hr (fun t ht hW9 => ⟨⟨x2_1, Ω, rfl, ⟨rfl, rfl⟩, by rw [oB, ht]; exact hW⟩, hS.F ht⟩) hS.2.2 dX9_goesTo_23
  have j_22 : (0 : Int32).toInt = 0 := by decide
  exact L2 4000 (0 : Int32) s.heap [] (by omega) hW hS ls (lv_sub hl [1, 2, 0] rfl) hR
set_option maxHeartbeats 4000000 in
set_option maxRecDepth 100000 in
theorem c_X9_registerOf (l : Launch) (G : Gm) (A : Nat → Prop) (Ω : Om) (p0 : Nat) (p0_0 : Fn) (p0_1 : Fn) (p0_2 : Fn) (p0_3 : Fn) (p0_4 : Int32) (p0_5 : Fn) (p0_6 : Fn) (p0_7 : Fn) (p0_8 : Int32) (p0_9 : Int32) (p0_10 : Int32) (p0_11 : Int32) (p0_12 : Int32) (p0_13 : Int32) (x1 : Int32) (hM_p0 : ToldInv p0_0) (ht : (0 ≤ x1.toInt ∧ x1.toInt < 6) ∨ (100 ≤ x1.toInt ∧ x1.toInt < 104)) (h_p0 : inMod G Ω p0 p0_0 p0_1 p0_2 p0_3 p0_4 p0_5 p0_6 p0_7 p0_8 p0_9 p0_10 p0_11 p0_12 p0_13) : Met l yX9_registerOf (wz yX9_registerOf cX9_registerOf 2 (some .int)) ({ frames := 0, cells := 0, slots := 0, locals := 0 } : Room) (va_Pc [.ref p0, .int x1] (oS G A Ω)) (va_Qi (fun (r : Int32) (Ω1 : Om) => r = (f_X9_registerOf p0_0 x1) ∧ Ω1 = Ω) (oB G A) A) 0 0 A := by
  refine Met.ofW (cc := cX9_registerOf) (maxL := 2) (ret := (some .int)) (by decide) rfl ?_
  intro p e s m args below meth c s₁ B hml hv
  obtain ⟨rfl, hW, hK, hN, hZ⟩ := hv
  have hx := B.exec
  have hb := B.bytes
  have hr := B.returns
  have hts : ∀ w ∈ gt, w.before _ s = true := fun w hw => atoms_spec (ws := wz yX9_registerOf cX9_registerOf 2 (some .int)) B.pre w (List.mem_cons_of_mem _ hw)
  have hown : s.vm.findClass RX9 = some m.cls := findClass_of_methodNamed B.named
  have hlocks := B.notSynchronized
  have hA : ∀ q, A q → A q := fun _ h => h
  have hS : va_S A s.heap s.heap [] := va_S.rf
  have hS0 := hS
  have hl := lv_entry ([.ref p0, .int x1]) (n := 2) (Nat.le_of_ble_eq_true rfl)
  rw [lg_entry_eq]
  generalize (lg_sl ([.ref p0, .int x1]) ++ List.replicate (2 - (lg_sl ([.ref p0, .int x1])).length) Slot.unset).toArray = ls at hl ⊢
  have hl : lv_has ls 2 [(0, .ref p0), (1, .int x1)] := hl
  generalize hR : (f_X9_registerOf p0_0 x1) = R
  rw [f_X9_registerOf] at hR
  refine lv_iload_n hx hb dX9_registerOf_0 rfl (lv_at hl 1 rfl) ?_
  refine lv_bipush (v := (100 : Int32)) hx hb dX9_registerOf_1 (by decide) ?_
  have j_2 : (100 : Int32).toInt = 100 := by decide
  refine lv_icmp_ge (tgt := 10) hx hb dX9_registerOf_3 (by decide) (fun c_1 => ?_) (fun c_1 => ?_)
  · rw [if_pos c_1] at hR
    have i_1 := rle c_1
    refine lv_aload_n hx hb dX9_registerOf_10 rfl (lv_at hl 0 rfl) ?_
    refine o_get hx hb hts hown hK hW (inMod_o h_p0) rfl ig9 0 (by decide) fl_X9_7 rfl dX9_registerOf_11 ?_
    refine lv_bipush (v := (82 : Int32)) hx hb dX9_registerOf_14 (by decide) ?_
    refine lv_iload_n hx hb dX9_registerOf_16 rfl (lv_at hl 1 rfl) ?_
    refine lv_iadd hx hb dX9_registerOf_17 ?_
    refine lv_bipush (v := (100 : Int32)) hx hb dX9_registerOf_18 (by decide) ?_
    refine lv_isub hx hb dX9_registerOf_20 ?_
    have j_3 : (82 : Int32).toInt = 82 := by decide
    try have j_4 : ((82 : Int32) + x1).toInt = (82 : Int32).toInt + x1.toInt := fb_addI (by omega) (by omega)
    try have j_5 : (((82 : Int32) + x1) - (100 : Int32)).toInt = ((82 : Int32) + x1).toInt - (100 : Int32).toInt := fb_subI (by omega) (by omega)
    refine o_iald hx hb hK hW (inMod_a0 h_p0) (vp_in_iff.mpr ⟨by omega, by omega⟩) dX9_registerOf_21 ?_
    subst hR
    exact W.iret (v := (p0_0 (((82 : Int32) + x1) - (100 : Int32)).toNatClampNeg)) hx hb hr (fun t ht hW9 => ⟨⟨(p0_0 (((82 : Int32) + x1) - (100 : Int32)).toNatClampNeg), Ω, rfl, ⟨rfl, rfl⟩, by rw [oB, ht]; exact hW⟩, hS.F ht⟩) hS.2.2 dX9_registerOf_22
  · rw [if_neg c_1] at hR
    have i_1 := rnle c_1
    refine lv_iload_n hx hb dX9_registerOf_6 rfl (lv_at hl 1 rfl) ?_
    refine lv_goto (tgt := 22) hx hb dX9_registerOf_7 (by decide) ?_
    subst hR
    exact W.iret (v := x1) hx hb hr (fun t ht hW9 => ⟨⟨x1, Ω, rfl, ⟨rfl, rfl⟩, by rw [oB, ht]; exact hW⟩, hS.F ht⟩) hS.2.2 dX9_registerOf_22
set_option maxHeartbeats 4000000 in
set_option maxRecDepth 100000 in
theorem c_X9_tellsOf (l : Launch) (G : Gm) (A : Nat → Prop) (Ω : Om) (p0 : Nat) (p0_0 : Fn) (p0_1 : Fn) (p0_2 : Fn) (p0_3 : Fn) (p0_4 : Int32) (p0_5 : Fn) (p0_6 : Fn) (p0_7 : Fn) (p0_8 : Int32) (p0_9 : Int32) (p0_10 : Int32) (p0_11 : Int32) (p0_12 : Int32) (p0_13 : Int32) (x1 : Int32) (x2 : Int32) (hM_p0 : ToldInv p0_0) (hm : 0 ≤ x1.toInt ∧ x1.toInt ≤ 135) (h_p0 : inMod G Ω p0 p0_0 p0_1 p0_2 p0_3 p0_4 p0_5 p0_6 p0_7 p0_8 p0_9 p0_10 p0_11 p0_12 p0_13) : Met l yX9_tellsOf (wz yX9_tellsOf cX9_tellsOf 5 (some .int)) ({ frames := 1, cells := 0, slots := 0, locals := 20 } : Room) (va_Pc [.ref p0, .int x1, .int x2] (oS G A Ω)) (va_Qi (fun (r : Int32) (Ω1 : Om) => r = (f_X9_tellsOf p0_0 p0_2 x1 x2) ∧ Ω1 = Ω) (oB G A) A) 0 0 A := by
  refine Met.ofW (cc := cX9_tellsOf) (maxL := 5) (ret := (some .int)) (by decide) rfl ?_
  intro p e s m args below meth c s₁ B hml hv
  obtain ⟨rfl, hW, hK, hN, hZ⟩ := hv
  have hx := B.exec
  have hb := B.bytes
  have hr := B.returns
  have hts : ∀ w ∈ gt, w.before _ s = true := fun w hw => atoms_spec (ws := wz yX9_tellsOf cX9_tellsOf 5 (some .int)) B.pre w (List.mem_cons_of_mem _ hw)
  have hown : s.vm.findClass RX9 = some m.cls := findClass_of_methodNamed B.named
  have hlocks := B.notSynchronized
  have hA : ∀ q, A q → A q := fun _ h => h
  have hS : va_S A s.heap s.heap [] := va_S.rf
  have hS0 := hS
  have hl := lv_entry ([.ref p0, .int x1, .int x2]) (n := 5) (Nat.le_of_ble_eq_true rfl)
  rw [lg_entry_eq]
  generalize (lg_sl ([.ref p0, .int x1, .int x2]) ++ List.replicate (5 - (lg_sl ([.ref p0, .int x1, .int x2])).length) Slot.unset).toArray = ls at hl ⊢
  have hl : lv_has ls 5 [(0, .ref p0), (1, .int x1), (2, .int x2)] := hl
  generalize hR : (f_X9_tellsOf p0_0 p0_2 x1 x2) = R
  rw [f_X9_tellsOf] at hR
  refine lv_iconst (v := (0 : Int32)) hx hb dX9_tellsOf_0 (by decide) ?_
  refine lv_istore_n (lv' := [(3, .int (0 : Int32)), (0, .ref p0), (1, .int x1), (2, .int x2)]) hx hb dX9_tellsOf_1 rfl hl (by decide) rfl (fun ls hl => ?_)
  refine lv_iconst (v := (0 : Int32)) hx hb dX9_tellsOf_2 (by decide) ?_
  refine lv_istore (lv' := [(4, .int (0 : Int32)), (3, .int (0 : Int32)), (0, .ref p0), (1, .int x1), (2, .int x2)]) hx hb dX9_tellsOf_3 hl (by decide) rfl (fun ls hl => ?_)
  have L5 : ∀ (n_2 : Nat) (x3_1 : Int32) (x4_1 : Int32) (H : Heap) (locs : List Loc), (0 ≤ x4_1.toInt ∧ x4_1.toInt ≤ 12 ∧ 12 - x4_1.toInt < n_2) → oW G A Ω H → va_S A s.heap H locs → ∀ ls : Array Slot, lv_has ls 5 [(0, .ref p0), (1, .int x1), (2, .int x2), (3, .int x3_1), (4, .int x4_1)] → (f_X9_tellsOf_L5 p0_0 p0_2 x1 x2 n_2 x3_1 x4_1) = R → W p l e (headSpec (wz yX9_tellsOf cX9_tellsOf 5 (some .int)) ({ frames := 1, cells := 0, slots := 0, locals := 20 } : Room)).room s m ([.ref p0, .int x1, .int x2] : List Value).toArray below meth c H locs 0 0 (MQ below (va_Qi (fun (r : Int32) (Ω1 : Om) => r = R ∧ Ω1 = Ω) (oB G A) A) ([.ref p0, .int x1, .int x2] : List Value).toArray s 0 0 A) (F0 m 5 ls []) := by
    intro n_2
    induction n_2 with
    | zero =>
      intro x3_1 x4_1 H locs v_5_0 hW hS ls hl hR
      exfalso
      omega
    | succ n_2 ih5 =>
      intro x3_1 x4_1 H locs v_5_0 hW hS ls hl hR
      rw [f_X9_tellsOf_L5] at hR
      refine lv_iload hx hb dX9_tellsOf_5 (lv_at hl 4 rfl) ?_
      refine lv_aload_n hx hb dX9_tellsOf_7 rfl (lv_at hl 0 rfl) ?_
      refine o_ViR (rest := [.int x4_1]) (As := []) (n := 0) hx hb hml hown hts hK hN hZ hW hS hA (c_X9_fields l G A Ω p0 p0_0 p0_1 p0_2 p0_3 p0_4 p0_5 p0_6 p0_7 p0_8 p0_9 p0_10 p0_11 p0_12 p0_13 hM_p0 h_p0) (inMod_o h_p0) rfl (good_V ml_X9_35 im_X9_fields se_X9_fields ini_X9 co_X9_fields) (by decide +kernel) ⟨Nat.zero_le _, Nat.zero_le _⟩ hl.1 (Nat.le_of_ble_eq_true rfl) rfl rfl dX9_tellsOf_8 (fun r H locs hp hW hS => ?_)
      subst hp
      try have j_5 : 0 ≤ (f_X9_fields p0_0).toInt ∧ (f_X9_fields p0_0).toInt ≤ 12 := TI_91 hM_p0
      refine lv_icmp_ge (tgt := 73) hx hb dX9_tellsOf_11 (by decide) (fun c_4 => ?_) (fun c_4 => ?_)
      · rw [if_pos c_4] at hR
        have i_4 := rle c_4
        refine lv_iload_n hx hb dX9_tellsOf_73 rfl (lv_at hl 3 rfl) ?_
        subst hR
        exact W.iret (v := x3_1) hx hb hr (fun t ht hW9 => ⟨⟨x3_1, Ω, rfl, ⟨rfl, rfl⟩, by rw [oB, ht]; exact hW⟩, hS.F ht⟩) hS.2.2 dX9_tellsOf_74
      · rw [if_neg c_4] at hR
        have i_4 := rnle c_4
        refine lv_aload_n hx hb dX9_tellsOf_14 rfl (lv_at hl 0 rfl) ?_
        refine o_get hx hb hts hown hK hW (inMod_o h_p0) rfl ig9 0 (by decide) fl_X9_7 rfl dX9_tellsOf_15 ?_
        refine lv_bipush (v := (18 : Int32)) hx hb dX9_tellsOf_18 (by decide) ?_
        refine lv_iload hx hb dX9_tellsOf_20 (lv_at hl 4 rfl) ?_
        refine lv_iadd hx hb dX9_tellsOf_22 ?_
        have j_6 : (18 : Int32).toInt = 18 := by decide
        try have j_7 : ((18 : Int32) + x4_1).toInt = (18 : Int32).toInt + x4_1.toInt := fb_addI (by omega) (by omega)
        refine o_iald hx hb hK hW (inMod_a0 h_p0) (vp_in_iff.mpr ⟨by omega, by omega⟩) dX9_tellsOf_23 ?_
        refine lv_iload_n hx hb dX9_tellsOf_24 rfl (lv_at hl 2 rfl) ?_
        try have j_9 : 0 ≤ (p0_0 ((18 : Int32) + x4_1).toNatClampNeg).toInt ∧ (p0_0 ((18 : Int32) + x4_1).toNatClampNeg).toInt < 6 := TI_18 hM_p0 (by omega) (by omega)
        refine lv_icmp_ne (tgt := 67) hx hb dX9_tellsOf_25 (by decide) (fun c_8 => ?_) (fun c_8 => ?_)
        · rw [if_neg c_8] at hR
          have i_8 := rne c_8
          refine lv_iinc (v := (x4_1 + (1 : Int32))) (lv' := [(4, .int (x4_1 + (1 : Int32))), (0, .ref p0), (1, .int x1), (2, .int x2), (3, .int x3_1)]) hx hb dX9_tellsOf_67 hl (k := 4) rfl rfl (by decide) rfl (fun ls hl => ?_)
          refine lv_goto (tgt := 5) hx hb dX9_tellsOf_70 (by decide) ?_
          have j_10 : (1 : Int32).toInt = 1 := by decide
          try have j_11 : (x4_1 + (1 : Int32)).toInt = x4_1.toInt + (1 : Int32).toInt := fb_addI (by omega) (by omega)
          exact ih5 x3_1 (x4_1 + (1 : Int32)) H locs (by omega) hW hS ls (lv_sub hl [1, 2, 3, 4, 0] rfl) hR
        · rw [if_pos c_8] at hR
          have i_8 := congrArg Int32.toInt c_8
          refine lv_aload_n hx hb dX9_tellsOf_28 rfl (lv_at hl 0 rfl) ?_
          refine o_get hx hb hts hown hK hW (inMod_o h_p0) rfl ig9 2 (by decide) fl_X9_16 rfl dX9_tellsOf_29 ?_
          refine lv_iload_n hx hb dX9_tellsOf_32 rfl (lv_at hl 1 rfl) ?_
          refine lv_bipush (v := (12 : Int32)) hx hb dX9_tellsOf_33 (by decide) ?_
          refine lv_iadd hx hb dX9_tellsOf_35 ?_
          refine lv_iload hx hb dX9_tellsOf_36 (lv_at hl 4 rfl) ?_
          refine lv_iadd hx hb dX9_tellsOf_38 ?_
          have j_12 : (12 : Int32).toInt = 12 := by decide
          try have j_13 : (x1 + (12 : Int32)).toInt = x1.toInt + (12 : Int32).toInt := fb_addI (by omega) (by omega)
          try have j_14 : ((x1 + (12 : Int32)) + x4_1).toInt = (x1 + (12 : Int32)).toInt + x4_1.toInt := fb_addI (by omega) (by omega)
          refine o_iald hx hb hK hW (inMod_a2 h_p0) (vp_in_iff.mpr ⟨by omega, by omega⟩) dX9_tellsOf_39 ?_
          refine lv_iconst (v := (2 : Int32)) hx hb dX9_tellsOf_40 (by decide) ?_
          have j_16 : (2 : Int32).toInt = 2 := by decide
          refine lv_icmp_eq (tgt := 67) hx hb dX9_tellsOf_41 (by decide) (fun c_15 => ?_) (fun c_15 => ?_)
          · rw [if_pos c_15] at hR
            have i_15 := congrArg Int32.toInt c_15
            refine lv_iinc (v := (x4_1 + (1 : Int32))) (lv' := [(4, .int (x4_1 + (1 : Int32))), (0, .ref p0), (1, .int x1), (2, .int x2), (3, .int x3_1)]) hx hb dX9_tellsOf_67 hl (k := 4) rfl rfl (by decide) rfl (fun ls hl => ?_)
            refine lv_goto (tgt := 5) hx hb dX9_tellsOf_70 (by decide) ?_
            have j_17 : (1 : Int32).toInt = 1 := by decide
            try have j_18 : (x4_1 + (1 : Int32)).toInt = x4_1.toInt + (1 : Int32).toInt := fb_addI (by omega) (by omega)
            exact ih5 x3_1 (x4_1 + (1 : Int32)) H locs (by omega) hW hS ls (lv_sub hl [1, 2, 3, 4, 0] rfl) hR
          · rw [if_neg c_15] at hR
            have i_15 := rne c_15
            refine lv_iload_n hx hb dX9_tellsOf_44 rfl (lv_at hl 3 rfl) ?_
            refine lv_aload_n hx hb dX9_tellsOf_45 rfl (lv_at hl 0 rfl) ?_
            refine o_get hx hb hts hown hK hW (inMod_o h_p0) rfl ig9 2 (by decide) fl_X9_16 rfl dX9_tellsOf_46 ?_
            refine lv_iload_n hx hb dX9_tellsOf_49 rfl (lv_at hl 1 rfl) ?_
            refine lv_iload hx hb dX9_tellsOf_50 (lv_at hl 4 rfl) ?_
            refine lv_iadd hx hb dX9_tellsOf_52 ?_
            try have j_19 : (x1 + x4_1).toInt = x1.toInt + x4_1.toInt := fb_addI (by omega) (by omega)
            refine o_iald hx hb hK hW (inMod_a2 h_p0) (vp_in_iff.mpr ⟨by omega, by omega⟩) dX9_tellsOf_53 ?_
            refine lv_aload_n hx hb dX9_tellsOf_54 rfl (lv_at hl 0 rfl) ?_
            refine o_get hx hb hts hown hK hW (inMod_o h_p0) rfl ig9 0 (by decide) fl_X9_7 rfl dX9_tellsOf_55 ?_
            refine lv_bipush (v := (30 : Int32)) hx hb dX9_tellsOf_58 (by decide) ?_
            refine lv_iload hx hb dX9_tellsOf_60 (lv_at hl 4 rfl) ?_
            refine lv_iadd hx hb dX9_tellsOf_62 ?_
            have j_20 : (30 : Int32).toInt = 30 := by decide
            try have j_21 : ((30 : Int32) + x4_1).toInt = (30 : Int32).toInt + x4_1.toInt := fb_addI (by omega) (by omega)
            refine o_iald hx hb hK hW (inMod_a0 h_p0) (vp_in_iff.mpr ⟨by omega, by omega⟩) dX9_tellsOf_63 ?_
            refine lv_ishl hx hb dX9_tellsOf_64 ?_
            refine lv_ior hx hb dX9_tellsOf_65 ?_
            refine lv_istore_n (lv' := [(3, .int (x3_1 ||| ((p0_2 (x1 + x4_1).toNatClampNeg) <<< ((p0_0 ((30 : Int32) + x4_1).toNatClampNeg) &&& 31)))), (0, .ref p0), (1, .int x1), (2, .int x2), (4, .int x4_1)]) hx hb dX9_tellsOf_66 rfl hl (by decide) rfl (fun ls hl => ?_)
            refine lv_iinc (v := (x4_1 + (1 : Int32))) (lv' := [(4, .int (x4_1 + (1 : Int32))), (3, .int (x3_1 ||| ((p0_2 (x1 + x4_1).toNatClampNeg) <<< ((p0_0 ((30 : Int32) + x4_1).toNatClampNeg) &&& 31)))), (0, .ref p0), (1, .int x1), (2, .int x2)]) hx hb dX9_tellsOf_67 hl (k := 4) rfl rfl (by decide) rfl (fun ls hl => ?_)
            refine lv_goto (tgt := 5) hx hb dX9_tellsOf_70 (by decide) ?_
            have j_22 : (1 : Int32).toInt = 1 := by decide
            try have j_23 : (x4_1 + (1 : Int32)).toInt = x4_1.toInt + (1 : Int32).toInt := fb_addI (by omega) (by omega)
            exact ih5 (x3_1 ||| ((p0_2 (x1 + x4_1).toNatClampNeg) <<< ((p0_0 ((30 : Int32) + x4_1).toNatClampNeg) &&& 31))) (x4_1 + (1 : Int32)) H locs (by omega) hW hS ls (lv_sub hl [2, 3, 4, 1, 0] rfl) hR
  have j_24 : (0 : Int32).toInt = 0 := by decide
  exact L5 4000 (0 : Int32) (0 : Int32) s.heap [] (by omega) hW hS ls (lv_sub hl [2, 3, 4, 1, 0] rfl) hR
set_option maxHeartbeats 4000000 in
set_option maxRecDepth 100000 in
theorem c_X9_peekAt (l : Launch) (G : Gm) (A : Nat → Prop) (Ω : Om) (p0 : Nat) (p0_0 : Fn) (p0_1 : Fn) (p0_2 : Fn) (p0_3 : Fn) (p0_4 : Int32) (p0_5 : Fn) (p0_6 : Fn) (p0_7 : Fn) (p0_8 : Int32) (p0_9 : Int32) (p0_10 : Int32) (p0_11 : Int32) (p0_12 : Int32) (p0_13 : Int32) (x1 : Int32) (x2 : Int32) (hM_p0 : ToldInv p0_0) (hm : 0 ≤ x1.toInt ∧ x1.toInt ≤ 135) (h_p0 : inMod G Ω p0 p0_0 p0_1 p0_2 p0_3 p0_4 p0_5 p0_6 p0_7 p0_8 p0_9 p0_10 p0_11 p0_12 p0_13) : Met l yX9_peekAt (wz yX9_peekAt cX9_peekAt 4 (some .int)) ({ frames := 2, cells := 0, slots := 0, locals := 44 } : Room) (va_Pc [.ref p0, .int x1, .int x2] (oS G A Ω)) (va_Qi (fun (r : Int32) (Ω1 : Om) => r = (f_X9_peekAt p0_0 p0_2 x1 x2) ∧ Ω1 = Ω) (oB G A) A) 0 0 A := by
  refine Met.ofW (cc := cX9_peekAt) (maxL := 4) (ret := (some .int)) (by decide) rfl ?_
  intro p e s m args below meth c s₁ B hml hv
  obtain ⟨rfl, hW, hK, hN, hZ⟩ := hv
  have hx := B.exec
  have hb := B.bytes
  have hr := B.returns
  have hts : ∀ w ∈ gt, w.before _ s = true := fun w hw => atoms_spec (ws := wz yX9_peekAt cX9_peekAt 4 (some .int)) B.pre w (List.mem_cons_of_mem _ hw)
  have hown : s.vm.findClass RX9 = some m.cls := findClass_of_methodNamed B.named
  have hlocks := B.notSynchronized
  have hA : ∀ q, A q → A q := fun _ h => h
  have hS : va_S A s.heap s.heap [] := va_S.rf
  have hS0 := hS
  have hl := lv_entry ([.ref p0, .int x1, .int x2]) (n := 4) (Nat.le_of_ble_eq_true rfl)
  rw [lg_entry_eq]
  generalize (lg_sl ([.ref p0, .int x1, .int x2]) ++ List.replicate (4 - (lg_sl ([.ref p0, .int x1, .int x2])).length) Slot.unset).toArray = ls at hl ⊢
  have hl : lv_has ls 4 [(0, .ref p0), (1, .int x1), (2, .int x2)] := hl
  generalize hR : (f_X9_peekAt p0_0 p0_2 x1 x2) = R
  rw [f_X9_peekAt] at hR
  refine lv_aload_n hx hb dX9_peekAt_0 rfl (lv_at hl 0 rfl) ?_
  refine lv_iload_n hx hb dX9_peekAt_1 rfl (lv_at hl 2 rfl) ?_
  refine o_ViR (rest := []) (As := [.int x2]) (n := 1) hx hb hml hown hts hK hN hZ hW hS hA (c_X9_goesTo l G A Ω p0 p0_0 p0_1 p0_2 p0_3 p0_4 p0_5 p0_6 p0_7 p0_8 p0_9 p0_10 p0_11 p0_12 p0_13 x2 hM_p0 h_p0) (inMod_o h_p0) rfl (good_V ml_X9_64 im_X9_goesTo se_X9_goesTo ini_X9 co_X9_goesTo) (by decide +kernel) ⟨Nat.zero_le _, Nat.zero_le _⟩ hl.1 (Nat.le_of_ble_eq_true rfl) rfl rfl dX9_peekAt_2 (fun r H locs hp hW hS => ?_)
  subst hp
  refine lv_istore_n (lv' := [(3, .int (f_X9_goesTo p0_0 x2)), (0, .ref p0), (1, .int x1), (2, .int x2)]) hx hb dX9_peekAt_5 rfl hl (by decide) rfl (fun ls hl => ?_)
  refine lv_iload_n hx hb dX9_peekAt_6 rfl (lv_at hl 0 rfl) ?_
  refine lv_bipush (v := (-9 : Int32)) hx hb dX9_peekAt_7 (by decide) ?_
  try have j_3 : (f_X9_goesTo p0_0 x2).toInt = -9 ∨ (0 ≤ (f_X9_goesTo p0_0 x2).toInt ∧ (f_X9_goesTo p0_0 x2).toInt < 6) ∨ (100 ≤ (f_X9_goesTo p0_0 x2).toInt ∧ (f_X9_goesTo p0_0 x2).toInt < 104) := R_goesTo hM_p0 _
  have j_4 : (-9 : Int32).toInt = -9 := by decide
  refine lv_icmp_ne (tgt := 16) hx hb dX9_peekAt_9 (by decide) (fun c_2 => ?_) (fun c_2 => ?_)
  · rw [if_neg c_2] at hR
    have i_2 := rne c_2
    refine lv_aload_n hx hb dX9_peekAt_16 rfl (lv_at hl 1 rfl) ?_
    refine lv_iload_n hx hb dX9_peekAt_17 rfl (lv_at hl 2 rfl) ?_
    refine lv_aload_n hx hb dX9_peekAt_18 rfl (lv_at hl 1 rfl) ?_
    refine lv_iload_n hx hb dX9_peekAt_19 rfl (lv_at hl 0 rfl) ?_
    refine o_ViR (rest := [.int x1, .ref p0]) (As := [.int (f_X9_goesTo p0_0 x2)]) (n := 1) hx hb hml hown hts hK hN hZ hW hS hA (c_X9_registerOf l G A Ω p0 p0_0 p0_1 p0_2 p0_3 p0_4 p0_5 p0_6 p0_7 p0_8 p0_9 p0_10 p0_11 p0_12 p0_13 (f_X9_goesTo p0_0 x2) hM_p0 (by omega) h_p0) (inMod_o h_p0) rfl (good_V ml_X9_67 im_X9_registerOf se_X9_registerOf ini_X9 co_X9_registerOf) (by decide +kernel) ⟨Nat.zero_le _, Nat.zero_le _⟩ hl.1 (Nat.le_of_ble_eq_true rfl) rfl rfl dX9_peekAt_20 (fun r H locs hp hW hS => ?_)
    subst hp
    try have j_6 : 0 ≤ (f_X9_registerOf p0_0 (f_X9_goesTo p0_0 x2)).toInt ∧ (f_X9_registerOf p0_0 (f_X9_goesTo p0_0 x2)).toInt < 6 := R_registerOf hM_p0 (by omega)
    refine o_ViR (rest := []) (As := [.int x1, .int (f_X9_registerOf p0_0 (f_X9_goesTo p0_0 x2))]) (n := 2) hx hb hml hown hts hK hN hZ hW hS hA (c_X9_tellsOf l G A Ω p0 p0_0 p0_1 p0_2 p0_3 p0_4 p0_5 p0_6 p0_7 p0_8 p0_9 p0_10 p0_11 p0_12 p0_13 x1 (f_X9_registerOf p0_0 (f_X9_goesTo p0_0 x2)) hM_p0 (by omega) h_p0) (inMod_o h_p0) rfl (good_V ml_X9_70 im_X9_tellsOf se_X9_tellsOf ini_X9 co_X9_tellsOf) (by decide +kernel) ⟨Nat.zero_le _, Nat.zero_le _⟩ hl.1 (Nat.le_of_ble_eq_true rfl) rfl rfl dX9_peekAt_23 (fun r H locs hp hW hS => ?_)
    subst hp
    subst hR
    exact W.iret (v := (f_X9_tellsOf p0_0 p0_2 x1 (f_X9_registerOf p0_0 (f_X9_goesTo p0_0 x2)))) hx hb hr (fun t ht hW9 => ⟨⟨(f_X9_tellsOf p0_0 p0_2 x1 (f_X9_registerOf p0_0 (f_X9_goesTo p0_0 x2))), Ω, rfl, ⟨rfl, rfl⟩, by rw [oB, ht]; exact hW⟩, hS.F ht⟩) hS.2.2 dX9_peekAt_26
  · rw [if_pos c_2] at hR
    have i_2 := congrArg Int32.toInt c_2
    refine lv_iconst (v := (0 : Int32)) hx hb dX9_peekAt_12 (by decide) ?_
    refine lv_goto (tgt := 26) hx hb dX9_peekAt_13 (by decide) ?_
    subst hR
    exact W.iret (v := (0 : Int32)) hx hb hr (fun t ht hW9 => ⟨⟨(0 : Int32), Ω, rfl, ⟨rfl, rfl⟩, by rw [oB, ht]; exact hW⟩, hS.F ht⟩) hS.2.2 dX9_peekAt_26
set_option maxHeartbeats 4000000 in
set_option maxRecDepth 100000 in
theorem c_X9_clearRead (l : Launch) (G : Gm) (A : Nat → Prop) (Ω : Om) (p0 : Nat) (p0_0 : Fn) (p0_1 : Fn) (p0_2 : Fn) (p0_3 : Fn) (p0_4 : Int32) (p0_5 : Fn) (p0_6 : Fn) (p0_7 : Fn) (p0_8 : Int32) (p0_9 : Int32) (p0_10 : Int32) (p0_11 : Int32) (p0_12 : Int32) (p0_13 : Int32) (x1 : Int32) (x2 : Int32) (hM_p0 : ToldInv p0_0) (hm : 0 ≤ x1.toInt ∧ x1.toInt ≤ 135) (h_p0 : inMod G Ω p0 p0_0 p0_1 p0_2 p0_3 p0_4 p0_5 p0_6 p0_7 p0_8 p0_9 p0_10 p0_11 p0_12 p0_13) : Met l yX9_clearRead (wz yX9_clearRead cX9_clearRead 4 none) ({ frames := 1, cells := 0, slots := 0, locals := 20 } : Room) (va_Pc [.ref p0, .int x1, .int x2] (oS G A Ω)) (va_Qv (fun (Ω1 : Om) => inMod G Ω1 p0 p0_0 p0_1 ((f_X9_clearRead p0_0 p0_2 x1 x2)) p0_3 p0_4 p0_5 p0_6 p0_7 p0_8 p0_9 p0_10 p0_11 p0_12 p0_13 ∧ (∀ q : Nat, (q < p0 ∨ p0 + 8 ≤ q) → Ω1 q = Ω q)) (oB G A) A) 0 0 A := by
  refine Met.ofW (cc := cX9_clearRead) (maxL := 4) (ret := none) (by decide) rfl ?_
  intro p e s m args below meth c s₁ B hml hv
  obtain ⟨rfl, hW, hK, hN, hZ⟩ := hv
  have hx := B.exec
  have hb := B.bytes
  have hr := B.returns
  have hts : ∀ w ∈ gt, w.before _ s = true := fun w hw => atoms_spec (ws := wz yX9_clearRead cX9_clearRead 4 none) B.pre w (List.mem_cons_of_mem _ hw)
  have hown : s.vm.findClass RX9 = some m.cls := findClass_of_methodNamed B.named
  have hlocks := B.notSynchronized
  have hA : ∀ q, A q → A q := fun _ h => h
  have hS : va_S A s.heap s.heap [] := va_S.rf
  have hS0 := hS
  have hl := lv_entry ([.ref p0, .int x1, .int x2]) (n := 4) (Nat.le_of_ble_eq_true rfl)
  rw [lg_entry_eq]
  generalize (lg_sl ([.ref p0, .int x1, .int x2]) ++ List.replicate (4 - (lg_sl ([.ref p0, .int x1, .int x2])).length) Slot.unset).toArray = ls at hl ⊢
  have hl : lv_has ls 4 [(0, .ref p0), (1, .int x1), (2, .int x2)] := hl
  have hE : ∀ q : Nat, (q < p0 ∨ p0 + 8 ≤ q) → Ω q = Ω q := by intros; rfl
  generalize hR : (f_X9_clearRead p0_0 p0_2 x1 x2) = R
  rw [f_X9_clearRead] at hR
  refine lv_iconst (v := (0 : Int32)) hx hb dX9_clearRead_0 (by decide) ?_
  refine lv_istore_n (lv' := [(3, .int (0 : Int32)), (0, .ref p0), (1, .int x1), (2, .int x2)]) hx hb dX9_clearRead_1 rfl hl (by decide) rfl (fun ls hl => ?_)
  have L2 : ∀ (n_2 : Nat) (x3_1 : Int32) (p0_2_1 : Fn) (Ω_3 : Om) (H : Heap) (locs : List Loc), (0 ≤ x3_1.toInt ∧ x3_1.toInt ≤ 12 ∧ 12 - x3_1.toInt < n_2) → inMod G Ω_3 p0 p0_0 p0_1 p0_2_1 p0_3 p0_4 p0_5 p0_6 p0_7 p0_8 p0_9 p0_10 p0_11 p0_12 p0_13 → (∀ q : Nat, (q < p0 ∨ p0 + 8 ≤ q) → Ω_3 q = Ω q) → oW G A Ω_3 H → va_S A s.heap H locs → ∀ ls : Array Slot, lv_has ls 4 [(0, .ref p0), (1, .int x1), (2, .int x2), (3, .int x3_1)] → (f_X9_clearRead_L2 p0_0 x1 x2 n_2 x3_1 p0_2_1) = R → W p l e (headSpec (wz yX9_clearRead cX9_clearRead 4 none) ({ frames := 1, cells := 0, slots := 0, locals := 20 } : Room)).room s m ([.ref p0, .int x1, .int x2] : List Value).toArray below meth c H locs 0 0 (MQ below (va_Qv (fun (Ω1 : Om) => inMod G Ω1 p0 p0_0 p0_1 (R) p0_3 p0_4 p0_5 p0_6 p0_7 p0_8 p0_9 p0_10 p0_11 p0_12 p0_13 ∧ (∀ q : Nat, (q < p0 ∨ p0 + 8 ≤ q) → Ω1 q = Ω q)) (oB G A) A) ([.ref p0, .int x1, .int x2] : List Value).toArray s 0 0 A) (F0 m 2 ls []) := by
    intro n_2
    induction n_2 with
    | zero =>
      intro x3_1 p0_2_1 Ω_3 H locs v_2_0 h_p0 hE hW hS ls hl hR
      exfalso
      omega
    | succ n_2 ih2 =>
      intro x3_1 p0_2_1 Ω_3 H locs v_2_0 h_p0 hE hW hS ls hl hR
      rw [f_X9_clearRead_L2] at hR
      refine lv_iload_n hx hb dX9_clearRead_2 rfl (lv_at hl 3 rfl) ?_
      refine lv_aload_n hx hb dX9_clearRead_3 rfl (lv_at hl 0 rfl) ?_
      refine o_ViR (rest := [.int x3_1]) (As := []) (n := 0) hx hb hml hown hts hK hN hZ hW hS hA (c_X9_fields l G A Ω_3 p0 p0_0 p0_1 p0_2_1 p0_3 p0_4 p0_5 p0_6 p0_7 p0_8 p0_9 p0_10 p0_11 p0_12 p0_13 hM_p0 h_p0) (inMod_o h_p0) rfl (good_V ml_X9_35 im_X9_fields se_X9_fields ini_X9 co_X9_fields) (by decide +kernel) ⟨Nat.zero_le _, Nat.zero_le _⟩ hl.1 (Nat.le_of_ble_eq_true rfl) rfl rfl dX9_clearRead_4 (fun r H locs hp hW hS => ?_)
      subst hp
      try have j_6 : 0 ≤ (f_X9_fields p0_0).toInt ∧ (f_X9_fields p0_0).toInt ≤ 12 := TI_91 hM_p0
      refine lv_icmp_ge (tgt := 60) hx hb dX9_clearRead_7 (by decide) (fun c_5 => ?_) (fun c_5 => ?_)
      · rw [if_pos c_5] at hR
        have i_5 := rle c_5
        subst hR
        exact W.vret hx hb hr (fun t ht hW9 => ⟨⟨Ω_3, rfl, ⟨h_p0, hE⟩, by rw [oB, ht]; exact hW⟩, hS.F ht⟩) hS.2.2 dX9_clearRead_60
      · rw [if_neg c_5] at hR
        have i_5 := rnle c_5
        refine lv_iload_n hx hb dX9_clearRead_10 rfl (lv_at hl 2 rfl) ?_
        refine lv_bipush (v := (100 : Int32)) hx hb dX9_clearRead_11 (by decide) ?_
        have j_8 : (100 : Int32).toInt = 100 := by decide
        refine lv_icmp_ge (tgt := 60) hx hb dX9_clearRead_13 (by decide) (fun c_7 => ?_) (fun c_7 => ?_)
        · rw [if_pos c_7] at hR
          have i_7 := rle c_7
          subst hR
          exact W.vret hx hb hr (fun t ht hW9 => ⟨⟨Ω_3, rfl, ⟨h_p0, hE⟩, by rw [oB, ht]; exact hW⟩, hS.F ht⟩) hS.2.2 dX9_clearRead_60
        · rw [if_neg c_7] at hR
          have i_7 := rnle c_7
          refine lv_aload_n hx hb dX9_clearRead_16 rfl (lv_at hl 0 rfl) ?_
          refine o_get hx hb hts hown hK hW (inMod_o h_p0) rfl ig9 0 (by decide) fl_X9_7 rfl dX9_clearRead_17 ?_
          refine lv_bipush (v := (18 : Int32)) hx hb dX9_clearRead_20 (by decide) ?_
          refine lv_iload_n hx hb dX9_clearRead_22 rfl (lv_at hl 3 rfl) ?_
          refine lv_iadd hx hb dX9_clearRead_23 ?_
          have j_9 : (18 : Int32).toInt = 18 := by decide
          try have j_10 : ((18 : Int32) + x3_1).toInt = (18 : Int32).toInt + x3_1.toInt := fb_addI (by omega) (by omega)
          refine o_iald hx hb hK hW (inMod_a0 h_p0) (vp_in_iff.mpr ⟨by omega, by omega⟩) dX9_clearRead_24 ?_
          refine lv_iload_n hx hb dX9_clearRead_25 rfl (lv_at hl 2 rfl) ?_
          try have j_12 : 0 ≤ (p0_0 ((18 : Int32) + x3_1).toNatClampNeg).toInt ∧ (p0_0 ((18 : Int32) + x3_1).toNatClampNeg).toInt < 6 := TI_18 hM_p0 (by omega) (by omega)
          refine lv_icmp_ne (tgt := 54) hx hb dX9_clearRead_26 (by decide) (fun c_11 => ?_) (fun c_11 => ?_)
          · rw [if_neg c_11] at hR
            have i_11 := rne c_11
            refine lv_iinc (v := (x3_1 + (1 : Int32))) (lv' := [(3, .int (x3_1 + (1 : Int32))), (0, .ref p0), (1, .int x1), (2, .int x2)]) hx hb dX9_clearRead_54 hl (k := 3) rfl rfl (by decide) rfl (fun ls hl => ?_)
            refine lv_goto (tgt := 2) hx hb dX9_clearRead_57 (by decide) ?_
            have j_13 : (1 : Int32).toInt = 1 := by decide
            try have j_14 : (x3_1 + (1 : Int32)).toInt = x3_1.toInt + (1 : Int32).toInt := fb_addI (by omega) (by omega)
            exact ih2 (x3_1 + (1 : Int32)) p0_2_1 Ω_3 H locs (by omega) h_p0 hE hW hS ls (lv_sub hl [1, 2, 3, 0] rfl) hR
          · rw [if_pos c_11] at hR
            have i_11 := congrArg Int32.toInt c_11
            refine lv_aload_n hx hb dX9_clearRead_29 rfl (lv_at hl 0 rfl) ?_
            refine o_get hx hb hts hown hK hW (inMod_o h_p0) rfl ig9 2 (by decide) fl_X9_16 rfl dX9_clearRead_30 ?_
            refine lv_iload_n hx hb dX9_clearRead_33 rfl (lv_at hl 1 rfl) ?_
            refine lv_bipush (v := (12 : Int32)) hx hb dX9_clearRead_34 (by decide) ?_
            refine lv_iadd hx hb dX9_clearRead_36 ?_
            refine lv_iload_n hx hb dX9_clearRead_37 rfl (lv_at hl 3 rfl) ?_
            refine lv_iadd hx hb dX9_clearRead_38 ?_
            have j_15 : (12 : Int32).toInt = 12 := by decide
            try have j_16 : (x1 + (12 : Int32)).toInt = x1.toInt + (12 : Int32).toInt := fb_addI (by omega) (by omega)
            try have j_17 : ((x1 + (12 : Int32)) + x3_1).toInt = (x1 + (12 : Int32)).toInt + x3_1.toInt := fb_addI (by omega) (by omega)
            refine o_iald hx hb hK hW (inMod_a2 h_p0) (vp_in_iff.mpr ⟨by omega, by omega⟩) dX9_clearRead_39 ?_
            refine lv_bipush (v := (6 : Int32)) hx hb dX9_clearRead_40 (by decide) ?_
            have j_19 : (6 : Int32).toInt = 6 := by decide
            refine lv_icmp_ne (tgt := 54) hx hb dX9_clearRead_42 (by decide) (fun c_18 => ?_) (fun c_18 => ?_)
            · rw [if_neg c_18] at hR
              have i_18 := rne c_18
              refine lv_iinc (v := (x3_1 + (1 : Int32))) (lv' := [(3, .int (x3_1 + (1 : Int32))), (0, .ref p0), (1, .int x1), (2, .int x2)]) hx hb dX9_clearRead_54 hl (k := 3) rfl rfl (by decide) rfl (fun ls hl => ?_)
              refine lv_goto (tgt := 2) hx hb dX9_clearRead_57 (by decide) ?_
              have j_20 : (1 : Int32).toInt = 1 := by decide
              try have j_21 : (x3_1 + (1 : Int32)).toInt = x3_1.toInt + (1 : Int32).toInt := fb_addI (by omega) (by omega)
              exact ih2 (x3_1 + (1 : Int32)) p0_2_1 Ω_3 H locs (by omega) h_p0 hE hW hS ls (lv_sub hl [1, 2, 3, 0] rfl) hR
            · rw [if_pos c_18] at hR
              have i_18 := congrArg Int32.toInt c_18
              refine lv_aload_n hx hb dX9_clearRead_45 rfl (lv_at hl 0 rfl) ?_
              refine o_get hx hb hts hown hK hW (inMod_o h_p0) rfl ig9 2 (by decide) fl_X9_16 rfl dX9_clearRead_46 ?_
              refine lv_iload_n hx hb dX9_clearRead_49 rfl (lv_at hl 1 rfl) ?_
              refine lv_iload_n hx hb dX9_clearRead_50 rfl (lv_at hl 3 rfl) ?_
              refine lv_iadd hx hb dX9_clearRead_51 ?_
              refine lv_iconst (v := (0 : Int32)) hx hb dX9_clearRead_52 (by decide) ?_
              try have j_22 : (x1 + x3_1).toInt = x1.toInt + x3_1.toInt := fb_addI (by omega) (by omega)
              refine wMod_2 hx hb hK hW hS hA h_p0 (vp_in_iff.mpr ⟨by omega, by omega⟩) dX9_clearRead_53 (fun Ω_23 H locs h_p0 hF_23 hW hS => ?_)
              have hE : ∀ q : Nat, (q < p0 ∨ p0 + 8 ≤ q) → Ω_23 q = Ω q := fun q g0 => (hF_23 q (by omega)).trans (hE q g0)
              refine lv_iinc (v := (x3_1 + (1 : Int32))) (lv' := [(3, .int (x3_1 + (1 : Int32))), (0, .ref p0), (1, .int x1), (2, .int x2)]) hx hb dX9_clearRead_54 hl (k := 3) rfl rfl (by decide) rfl (fun ls hl => ?_)
              refine lv_goto (tgt := 2) hx hb dX9_clearRead_57 (by decide) ?_
              have j_24 : (1 : Int32).toInt = 1 := by decide
              try have j_25 : (x3_1 + (1 : Int32)).toInt = x3_1.toInt + (1 : Int32).toInt := fb_addI (by omega) (by omega)
              exact ih2 (x3_1 + (1 : Int32)) (upd p0_2_1 (x1 + x3_1).toNatClampNeg (0 : Int32)) Ω_23 H locs (by omega) h_p0 hE hW hS ls (lv_sub hl [1, 2, 3, 0] rfl) hR
  have j_26 : (0 : Int32).toInt = 0 := by decide
  exact L2 4000 (0 : Int32) p0_2 Ω s.heap [] (by omega) h_p0 hE hW hS ls (lv_sub hl [1, 2, 3, 0] rfl) hR
set_option maxHeartbeats 4000000 in
set_option maxRecDepth 100000 in
theorem c_X9_readOf (l : Launch) (G : Gm) (A : Nat → Prop) (Ω : Om) (p0 : Nat) (p0_0 : Fn) (p0_1 : Fn) (p0_2 : Fn) (p0_3 : Fn) (p0_4 : Int32) (p0_5 : Fn) (p0_6 : Fn) (p0_7 : Fn) (p0_8 : Int32) (p0_9 : Int32) (p0_10 : Int32) (p0_11 : Int32) (p0_12 : Int32) (p0_13 : Int32) (x1 : Int32) (x2 : Int32) (hM_p0 : ToldInv p0_0) (hm : 0 ≤ x1.toInt ∧ x1.toInt ≤ 135) (h_p0 : inMod G Ω p0 p0_0 p0_1 p0_2 p0_3 p0_4 p0_5 p0_6 p0_7 p0_8 p0_9 p0_10 p0_11 p0_12 p0_13) : Met l yX9_readOf (wz yX9_readOf cX9_readOf 5 (some .int)) ({ frames := 3, cells := 0, slots := 0, locals := 67 } : Room) (va_Pc [.ref p0, .int x1, .int x2] (oS G A Ω)) (va_Qi (fun (r : Int32) (Ω1 : Om) => r = (f_X9_readOf p0_0 p0_2 x1 x2).1 ∧ inMod G Ω1 p0 p0_0 p0_1 ((f_X9_readOf p0_0 p0_2 x1 x2).2) p0_3 p0_4 p0_5 p0_6 p0_7 p0_8 p0_9 p0_10 p0_11 p0_12 p0_13 ∧ (∀ q : Nat, (q < p0 ∨ p0 + 8 ≤ q) → Ω1 q = Ω q)) (oB G A) A) 0 0 A := by
  refine Met.ofW (cc := cX9_readOf) (maxL := 5) (ret := (some .int)) (by decide) rfl ?_
  intro p e s m args below meth c s₁ B hml hv
  obtain ⟨rfl, hW, hK, hN, hZ⟩ := hv
  have hx := B.exec
  have hb := B.bytes
  have hr := B.returns
  have hts : ∀ w ∈ gt, w.before _ s = true := fun w hw => atoms_spec (ws := wz yX9_readOf cX9_readOf 5 (some .int)) B.pre w (List.mem_cons_of_mem _ hw)
  have hown : s.vm.findClass RX9 = some m.cls := findClass_of_methodNamed B.named
  have hlocks := B.notSynchronized
  have hA : ∀ q, A q → A q := fun _ h => h
  have hS : va_S A s.heap s.heap [] := va_S.rf
  have hS0 := hS
  have hl := lv_entry ([.ref p0, .int x1, .int x2]) (n := 5) (Nat.le_of_ble_eq_true rfl)
  rw [lg_entry_eq]
  generalize (lg_sl ([.ref p0, .int x1, .int x2]) ++ List.replicate (5 - (lg_sl ([.ref p0, .int x1, .int x2])).length) Slot.unset).toArray = ls at hl ⊢
  have hl : lv_has ls 5 [(0, .ref p0), (1, .int x1), (2, .int x2)] := hl
  have hE : ∀ q : Nat, (q < p0 ∨ p0 + 8 ≤ q) → Ω q = Ω q := by intros; rfl
  generalize hR : (f_X9_readOf p0_0 p0_2 x1 x2) = R
  rw [f_X9_readOf] at hR
  refine lv_aload_n hx hb dX9_readOf_0 rfl (lv_at hl 0 rfl) ?_
  refine lv_iload_n hx hb dX9_readOf_1 rfl (lv_at hl 1 rfl) ?_
  refine lv_iload_n hx hb dX9_readOf_2 rfl (lv_at hl 2 rfl) ?_
  refine o_ViR (rest := []) (As := [.int x1, .int x2]) (n := 2) hx hb hml hown hts hK hN hZ hW hS hA (c_X9_peekAt l G A Ω p0 p0_0 p0_1 p0_2 p0_3 p0_4 p0_5 p0_6 p0_7 p0_8 p0_9 p0_10 p0_11 p0_12 p0_13 x1 x2 hM_p0 (by omega) h_p0) (inMod_o h_p0) rfl (good_V ml_X9_74 im_X9_peekAt se_X9_peekAt ini_X9 co_X9_peekAt) (by decide +kernel) ⟨Nat.zero_le _, Nat.zero_le _⟩ hl.1 (Nat.le_of_ble_eq_true rfl) rfl rfl dX9_readOf_3 (fun r H locs hp hW hS => ?_)
  subst hp
  refine lv_istore_n (lv' := [(3, .int (f_X9_peekAt p0_0 p0_2 x1 x2)), (0, .ref p0), (1, .int x1), (2, .int x2)]) hx hb dX9_readOf_6 rfl hl (by decide) rfl (fun ls hl => ?_)
  refine lv_aload_n hx hb dX9_readOf_7 rfl (lv_at hl 1 rfl) ?_
  refine lv_iload_n hx hb dX9_readOf_8 rfl (lv_at hl 3 rfl) ?_
  refine o_ViR (rest := []) (As := [.int x2]) (n := 1) hx hb hml hown hts hK hN hZ hW hS hA (c_X9_goesTo l G A Ω p0 p0_0 p0_1 p0_2 p0_3 p0_4 p0_5 p0_6 p0_7 p0_8 p0_9 p0_10 p0_11 p0_12 p0_13 x2 hM_p0 h_p0) (inMod_o h_p0) rfl (good_V ml_X9_64 im_X9_goesTo se_X9_goesTo ini_X9 co_X9_goesTo) (by decide +kernel) ⟨Nat.zero_le _, Nat.zero_le _⟩ hl.1 (Nat.le_of_ble_eq_true rfl) rfl rfl dX9_readOf_9 (fun r H locs hp hW hS => ?_)
  subst hp
  refine lv_istore (lv' := [(4, .int (f_X9_goesTo p0_0 x2)), (3, .int (f_X9_peekAt p0_0 p0_2 x1 x2)), (0, .ref p0), (1, .int x1), (2, .int x2)]) hx hb dX9_readOf_12 hl (by decide) rfl (fun ls hl => ?_)
  refine lv_iload hx hb dX9_readOf_14 (lv_at hl 0 rfl) ?_
  refine lv_bipush (v := (-9 : Int32)) hx hb dX9_readOf_16 (by decide) ?_
  try have j_4 : (f_X9_goesTo p0_0 x2).toInt = -9 ∨ (0 ≤ (f_X9_goesTo p0_0 x2).toInt ∧ (f_X9_goesTo p0_0 x2).toInt < 6) ∨ (100 ≤ (f_X9_goesTo p0_0 x2).toInt ∧ (f_X9_goesTo p0_0 x2).toInt < 104) := R_goesTo hM_p0 _
  have j_5 : (-9 : Int32).toInt = -9 := by decide
  refine lv_icmp_eq (tgt := 28) hx hb dX9_readOf_18 (by decide) (fun c_3 => ?_) (fun c_3 => ?_)
  · rw [if_pos c_3] at hR
    have i_3 := congrArg Int32.toInt c_3
    refine lv_iload_n hx hb dX9_readOf_28 rfl (lv_at hl 1 rfl) ?_
    subst hR
    exact W.iret (v := (f_X9_peekAt p0_0 p0_2 x1 x2)) hx hb hr (fun t ht hW9 => ⟨⟨(f_X9_peekAt p0_0 p0_2 x1 x2), Ω, rfl, ⟨rfl, h_p0, hE⟩, by rw [oB, ht]; exact hW⟩, hS.F ht⟩) hS.2.2 dX9_readOf_29
  · rw [if_neg c_3] at hR
    have i_3 := rne c_3
    refine lv_aload_n hx hb dX9_readOf_21 rfl (lv_at hl 2 rfl) ?_
    refine lv_iload_n hx hb dX9_readOf_22 rfl (lv_at hl 3 rfl) ?_
    refine lv_iload hx hb dX9_readOf_23 (lv_at hl 0 rfl) ?_
    refine o_Vv (rest := []) (As := [.int x1, .int (f_X9_goesTo p0_0 x2)]) (n := 2) hx hb hml hown hts hK hN hZ hW hS hA (c_X9_clearRead l G A Ω p0 p0_0 p0_1 p0_2 p0_3 p0_4 p0_5 p0_6 p0_7 p0_8 p0_9 p0_10 p0_11 p0_12 p0_13 x1 (f_X9_goesTo p0_0 x2) hM_p0 (by omega) h_p0) (inMod_o h_p0) rfl (good_V ml_X9_77 im_X9_clearRead se_X9_clearRead ini_X9 co_X9_clearRead) (by decide +kernel) ⟨Nat.zero_le _, Nat.zero_le _⟩ hl.1 (Nat.le_of_ble_eq_true rfl) rfl rfl dX9_readOf_25 (fun Ω_6 H locs hp hW hS => ?_)
    obtain ⟨h_p0, hF_6⟩ := hp
    have hE : ∀ q : Nat, (q < p0 ∨ p0 + 8 ≤ q) → Ω_6 q = Ω q := fun q g0 => (hF_6 q (by omega)).trans (hE q g0)
    try have q72_6 : ((f_X9_clearRead p0_0 p0_2 x1 (f_X9_goesTo p0_0 x2)) (72 : Int32).toNatClampNeg).toInt = (p0_2 (72 : Int32).toNatClampNeg).toInt := congrArg Int32.toInt (FR_clearRead (j := 72) hM_p0 (by omega) (by omega))
    refine lv_iload_n hx hb dX9_readOf_28 rfl (lv_at hl 1 rfl) ?_
    subst hR
    exact W.iret (v := (f_X9_peekAt p0_0 p0_2 x1 x2)) hx hb hr (fun t ht hW9 => ⟨⟨(f_X9_peekAt p0_0 p0_2 x1 x2), Ω_6, rfl, ⟨rfl, h_p0, hE⟩, by rw [oB, ht]; exact hW⟩, hS.F ht⟩) hS.2.2 dX9_readOf_29
set_option maxHeartbeats 4000000 in
set_option maxRecDepth 100000 in
theorem c_X9_by (l : Launch) (G : Gm) (A : Nat → Prop) (Ω : Om) (x0 : Int32) (x1 : Int32) (x2 : Int32) (x3 : Int32) : Met l yX9_by (wz yX9_by cX9_by 4 (some .int)) ({ frames := 0, cells := 0, slots := 0, locals := 0 } : Room) (va_Pc [.int x0, .int x1, .int x2, .int x3] (oS G A Ω)) (va_Qi (fun (r : Int32) (Ω1 : Om) => r = (f_X9_by x0 x1 x2 x3) ∧ Ω1 = Ω) (oB G A) A) 0 0 A := by
  refine Met.ofW (cc := cX9_by) (maxL := 4) (ret := (some .int)) (by decide) rfl ?_
  intro p e s m args below meth c s₁ B hml hv
  obtain ⟨rfl, hW, hK, hN, hZ⟩ := hv
  have hx := B.exec
  have hb := B.bytes
  have hr := B.returns
  have hts : ∀ w ∈ gt, w.before _ s = true := fun w hw => atoms_spec (ws := wz yX9_by cX9_by 4 (some .int)) B.pre w (List.mem_cons_of_mem _ hw)
  have hown : s.vm.findClass RX9 = some m.cls := findClass_of_methodNamed B.named
  have hlocks := B.notSynchronized
  have hA : ∀ q, A q → A q := fun _ h => h
  have hS : va_S A s.heap s.heap [] := va_S.rf
  have hS0 := hS
  have hl := lv_entry ([.int x0, .int x1, .int x2, .int x3]) (n := 4) (Nat.le_of_ble_eq_true rfl)
  rw [lg_entry_eq]
  generalize (lg_sl ([.int x0, .int x1, .int x2, .int x3]) ++ List.replicate (4 - (lg_sl ([.int x0, .int x1, .int x2, .int x3])).length) Slot.unset).toArray = ls at hl ⊢
  have hl : lv_has ls 4 [(0, .int x0), (1, .int x1), (2, .int x2), (3, .int x3)] := hl
  generalize hR : (f_X9_by x0 x1 x2 x3) = R
  rw [f_X9_by] at hR
  refine lv_iload_n hx hb dX9_by_0 rfl (lv_at hl 0 rfl) ?_
  by_cases c_1 : x0 = (0 : Int32)
  · rw [if_pos c_1] at hR
    refine lv_tableIn (tgt := 48) hx hb dX9_by_1 (by rw [c_1]; decide) (by rw [c_1]; decide) (by rw [c_1]; rfl) (by decide) ?_
    have i_1 := congrArg Int32.toInt c_1
    have j_2 : (0 : Int32).toInt = 0 := by decide
    refine lv_iload_n hx hb dX9_by_48 rfl (lv_at hl 2 rfl) ?_
    subst hR
    exact W.iret (v := x2) hx hb hr (fun t ht hW9 => ⟨⟨x2, Ω, rfl, ⟨rfl, rfl⟩, by rw [oB, ht]; exact hW⟩, hS.F ht⟩) hS.2.2 dX9_by_49
  rw [if_neg c_1] at hR
  by_cases c_3 : x0 = (1 : Int32)
  · rw [if_pos c_3] at hR
    refine lv_tableIn (tgt := 74) hx hb dX9_by_1 (by rw [c_3]; decide) (by rw [c_3]; decide) (by rw [c_3]; rfl) (by decide) ?_
    have i_3 := congrArg Int32.toInt c_3
    refine lv_iload_n hx hb dX9_by_74 rfl (lv_at hl 1 rfl) ?_
    subst hR
    exact W.iret (v := x1) hx hb hr (fun t ht hW9 => ⟨⟨x1, Ω, rfl, ⟨rfl, rfl⟩, by rw [oB, ht]; exact hW⟩, hS.F ht⟩) hS.2.2 dX9_by_75
  rw [if_neg c_3] at hR
  by_cases c_4 : x0 = (2 : Int32)
  · rw [if_pos c_4] at hR
    refine lv_tableIn (tgt := 48) hx hb dX9_by_1 (by rw [c_4]; decide) (by rw [c_4]; decide) (by rw [c_4]; rfl) (by decide) ?_
    have i_4 := congrArg Int32.toInt c_4
    refine lv_iload_n hx hb dX9_by_48 rfl (lv_at hl 2 rfl) ?_
    subst hR
    exact W.iret (v := x2) hx hb hr (fun t ht hW9 => ⟨⟨x2, Ω, rfl, ⟨rfl, rfl⟩, by rw [oB, ht]; exact hW⟩, hS.F ht⟩) hS.2.2 dX9_by_49
  rw [if_neg c_4] at hR
  by_cases c_5 : x0 = (3 : Int32)
  · rw [if_pos c_5] at hR
    refine lv_tableIn (tgt := 50) hx hb dX9_by_1 (by rw [c_5]; decide) (by rw [c_5]; decide) (by rw [c_5]; rfl) (by decide) ?_
    have i_5 := congrArg Int32.toInt c_5
    refine lv_iload_n hx hb dX9_by_50 rfl (lv_at hl 1 rfl) ?_
    refine lv_iload_n hx hb dX9_by_51 rfl (lv_at hl 2 rfl) ?_
    refine lv_iconst (v := (-1 : Int32)) hx hb dX9_by_52 (by decide) ?_
    refine lv_ixor hx hb dX9_by_53 ?_
    refine lv_iand hx hb dX9_by_54 ?_
    subst hR
    exact W.iret (v := (x1 &&& (x2 ^^^ (-1 : Int32)))) hx hb hr (fun t ht hW9 => ⟨⟨(x1 &&& (x2 ^^^ (-1 : Int32))), Ω, rfl, ⟨rfl, rfl⟩, by rw [oB, ht]; exact hW⟩, hS.F ht⟩) hS.2.2 dX9_by_55
  rw [if_neg c_5] at hR
  by_cases c_6 : x0 = (4 : Int32)
  · rw [if_pos c_6] at hR
    refine lv_tableIn (tgt := 56) hx hb dX9_by_1 (by rw [c_6]; decide) (by rw [c_6]; decide) (by rw [c_6]; rfl) (by decide) ?_
    have i_6 := congrArg Int32.toInt c_6
    refine lv_iload_n hx hb dX9_by_56 rfl (lv_at hl 1 rfl) ?_
    refine lv_iload_n hx hb dX9_by_57 rfl (lv_at hl 2 rfl) ?_
    refine lv_ior hx hb dX9_by_58 ?_
    subst hR
    exact W.iret (v := (x1 ||| x2)) hx hb hr (fun t ht hW9 => ⟨⟨(x1 ||| x2), Ω, rfl, ⟨rfl, rfl⟩, by rw [oB, ht]; exact hW⟩, hS.F ht⟩) hS.2.2 dX9_by_59
  rw [if_neg c_6] at hR
  by_cases c_7 : x0 = (5 : Int32)
  · rw [if_pos c_7] at hR
    refine lv_tableIn (tgt := 60) hx hb dX9_by_1 (by rw [c_7]; decide) (by rw [c_7]; decide) (by rw [c_7]; rfl) (by decide) ?_
    have i_7 := congrArg Int32.toInt c_7
    refine lv_iload_n hx hb dX9_by_60 rfl (lv_at hl 1 rfl) ?_
    refine lv_iload_n hx hb dX9_by_61 rfl (lv_at hl 2 rfl) ?_
    refine lv_ixor hx hb dX9_by_62 ?_
    subst hR
    exact W.iret (v := (x1 ^^^ x2)) hx hb hr (fun t ht hW9 => ⟨⟨(x1 ^^^ x2), Ω, rfl, ⟨rfl, rfl⟩, by rw [oB, ht]; exact hW⟩, hS.F ht⟩) hS.2.2 dX9_by_63
  rw [if_neg c_7] at hR
  by_cases c_8 : x0 = (6 : Int32)
  · rw [if_pos c_8] at hR
    refine lv_tableIn (tgt := 74) hx hb dX9_by_1 (by rw [c_8]; decide) (by rw [c_8]; decide) (by rw [c_8]; rfl) (by decide) ?_
    have i_8 := congrArg Int32.toInt c_8
    refine lv_iload_n hx hb dX9_by_74 rfl (lv_at hl 1 rfl) ?_
    subst hR
    exact W.iret (v := x1) hx hb hr (fun t ht hW9 => ⟨⟨x1, Ω, rfl, ⟨rfl, rfl⟩, by rw [oB, ht]; exact hW⟩, hS.F ht⟩) hS.2.2 dX9_by_75
  rw [if_neg c_8] at hR
  by_cases c_9 : x0 = (7 : Int32)
  · rw [if_pos c_9] at hR
    refine lv_tableIn (tgt := 64) hx hb dX9_by_1 (by rw [c_9]; decide) (by rw [c_9]; decide) (by rw [c_9]; rfl) (by decide) ?_
    have i_9 := congrArg Int32.toInt c_9
    refine lv_iload_n hx hb dX9_by_64 rfl (lv_at hl 3 rfl) ?_
    have j_11 : (0 : Int32).toInt = 0 := by decide
    refine lv_if_eq (tgt := 72) hx hb dX9_by_65 (by decide) (fun c_10 => ?_) (fun c_10 => ?_)
    · rw [if_pos c_10] at hR
      have i_10 := congrArg Int32.toInt c_10
      refine lv_iload_n hx hb dX9_by_72 rfl (lv_at hl 1 rfl) ?_
      subst hR
      exact W.iret (v := x1) hx hb hr (fun t ht hW9 => ⟨⟨x1, Ω, rfl, ⟨rfl, rfl⟩, by rw [oB, ht]; exact hW⟩, hS.F ht⟩) hS.2.2 dX9_by_73
    · rw [if_neg c_10] at hR
      have i_10 := rne c_10
      refine lv_iload_n hx hb dX9_by_68 rfl (lv_at hl 2 rfl) ?_
      refine lv_goto (tgt := 73) hx hb dX9_by_69 (by decide) ?_
      subst hR
      exact W.iret (v := x2) hx hb hr (fun t ht hW9 => ⟨⟨x2, Ω, rfl, ⟨rfl, rfl⟩, by rw [oB, ht]; exact hW⟩, hS.F ht⟩) hS.2.2 dX9_by_73
  rw [if_neg c_9] at hR
  have i_1 := lv_neT c_1 (a := 0) rfl
  have i_3 := lv_neT c_3 (a := 1) rfl
  have i_4 := lv_neT c_4 (a := 2) rfl
  have i_5 := lv_neT c_5 (a := 3) rfl
  have i_6 := lv_neT c_6 (a := 4) rfl
  have i_7 := lv_neT c_7 (a := 5) rfl
  have i_8 := lv_neT c_8 (a := 6) rfl
  have i_9 := lv_neT c_9 (a := 7) rfl
  refine lv_tableOut (tgt := 74) hx hb dX9_by_1 (by omega) (by decide) ?_
  refine lv_iload_n hx hb dX9_by_74 rfl (lv_at hl 1 rfl) ?_
  subst hR
  exact W.iret (v := x1) hx hb hr (fun t ht hW9 => ⟨⟨x1, Ω, rfl, ⟨rfl, rfl⟩, by rw [oB, ht]; exact hW⟩, hS.F ht⟩) hS.2.2 dX9_by_75
