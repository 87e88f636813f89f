set_option maxHeartbeats 4000000 in
set_option maxRecDepth 100000 in
theorem c_X8_type (l : Launch) (G : Gm) (A : Nat → Prop) (Ω : Om) (p0 : Nat) (p0b : Nat) (p0pb : Nat) (p0t_0 : Fn) (p0t_1 : Int32) (x1 : Int32) (hbo : (p0b = p0 + 4 ∧ p0pb = p0 + 132) ∨ (p0b = p0 + 132 ∧ p0pb = p0 + 4)) (hT_p0t : 0 ≤ p0t_1.toInt ∧ p0t_1.toInt ≤ 160) (h_p0 : inMBO G Ω p0 p0b) (h_p0t : inTxt G Ω (p0 + 1) p0t_0 p0t_1) : Met l yX8_type (wz yX8_type cX8_type 2 (some .int)) ({ frames := 1, cells := 0, slots := 0, locals := 21 } : Room) (va_Pc [.ref p0, .int x1] (oS G A Ω)) (va_Qi (fun (r : Int32) (Ω1 : Om) => r = (f_X8_type p0t_0 p0t_1 x1).1 ∧ inTxt G Ω1 (p0 + 1) ((f_X8_type p0t_0 p0t_1 x1).2.1) ((f_X8_type p0t_0 p0t_1 x1).2.2) ∧ (∀ q : Nat, (q < (p0 + 1) ∨ (p0 + 1) + 2 ≤ q) → Ω1 q = Ω q)) (oB G A) A) 0 0 A := by
  refine Met.ofW (cc := cX8_type) (maxL := 2) (ret := (some .int)) (by decide) rfl ?_
  intro p e s m args below meth c s₁ B hml hv
  obtain ⟨rfl, hW, hK, hN, hZ⟩ := hv
  have hx := B.exec
  have hb := B.bytes
  have hr := B.returns
  have hts : ∀ w ∈ gt, w.before _ s = true := fun w hw => atoms_spec (ws := wz yX8_type cX8_type 2 (some .int)) B.pre w (List.mem_cons_of_mem _ hw)
  have hown : s.vm.findClass RX8 = some m.cls := findClass_of_methodNamed B.named
  have hlocks := B.notSynchronized
  have hA : ∀ q, A q → A q := fun _ h => h
  have hS : va_S A s.heap s.heap [] := va_S.rf
  have hS0 := hS
  have hl := lv_entry ([.ref p0, .int x1]) (n := 2) (Nat.le_of_ble_eq_true rfl)
  rw [lg_entry_eq]
  generalize (lg_sl ([.ref p0, .int x1]) ++ List.replicate (2 - (lg_sl ([.ref p0, .int x1])).length) Slot.unset).toArray = ls at hl ⊢
  have hl : lv_has ls 2 [(0, .ref p0), (1, .int x1)] := hl
  have hE : ∀ q : Nat, (q < (p0 + 1) ∨ (p0 + 1) + 2 ≤ q) → Ω q = Ω q := by intros; rfl
  generalize hR : (f_X8_type p0t_0 p0t_1 x1) = R
  rw [f_X8_type] at hR
  refine lv_iload_n hx hb dX8_type_0 rfl (lv_at hl 1 rfl) ?_
  refine lv_sipush (v := (256 : Int32)) hx hb dX8_type_1 (by decide) ?_
  have j_1 : (256 : Int32).toInt = 256 := by decide
  refine o_SiR (rest := []) (As := [.int x1, .int (256 : Int32)]) (n := 2) hx hb hml hown hts hK hN hZ hW hS hA (c_X8_isWithin l G A Ω x1 (256 : Int32)) ml_X8_61 st_X8_isWithin ini_X8 co_X8_isWithin (by decide +kernel) ⟨Nat.zero_le _, Nat.zero_le _⟩ hl.1 (Nat.le_of_ble_eq_true rfl) rfl rfl dX8_type_4 (fun r H locs hp hW hS => ?_)
  obtain ⟨rfl, hz_2⟩ := hp
  have j_4 : (0 : Int32).toInt = 0 := by decide
  refine lv_if_ne (tgt := 12) hx hb dX8_type_7 (by decide) (fun c_3 => ?_) (fun c_3 => ?_)
  · rw [if_neg c_3] at hR
    have i_3 := rne c_3
    have b_c_3 := rIW c_3
    refine lv_aload_n hx hb dX8_type_12 rfl (lv_at hl 0 rfl) ?_
    refine o_get hx hb hts hown hK hW (inMBO_o h_p0) rfl ig8 0 (by decide) fl_X8_10 rfl dX8_type_13 ?_
    refine o_get hx hb hts hown hK hW (inTxt_o h_p0t) rfl ig6 1 (by decide) fl_X8_65 rfl dX8_type_16 ?_
    refine lv_sipush (v := (160 : Int32)) hx hb dX8_type_19 (by decide) ?_
    have j_6 : (160 : Int32).toInt = 160 := by decide
    refine lv_icmp_lt (tgt := 28) hx hb dX8_type_22 (by decide) (fun c_5 => ?_) (fun c_5 => ?_)
    · rw [if_pos c_5] at hR
      have i_5 := rlt c_5
      refine lv_aload_n hx hb dX8_type_28 rfl (lv_at hl 0 rfl) ?_
      refine o_get hx hb hts hown hK hW (inMBO_o h_p0) rfl ig8 0 (by decide) fl_X8_10 rfl dX8_type_29 ?_
      refine lv_iload_n hx hb dX8_type_32 rfl (lv_at hl 1 rfl) ?_
      refine o_Vv (rest := []) (As := [.int x1]) (n := 1) hx hb hml hown hts hK hN hZ hW hS hA (c_X6_append l G A Ω (p0 + 1) p0t_0 p0t_1 x1 (by omega) h_p0t) (inTxt_o h_p0t) rfl (good_V ml_X8_69 im_X6_append se_X6_append ini_X6 co_X6_append) (by decide +kernel) ⟨Nat.zero_le _, Nat.zero_le _⟩ hl.1 (Nat.le_of_ble_eq_true rfl) rfl rfl dX8_type_33 (fun Ω_7 H locs hp hW hS => ?_)
      obtain ⟨h_p0t, hF_7⟩ := hp
      have h_p0 := h_p0.keep (fun q h1 h2 => hF_7 q (by omega))
      have hE : ∀ q : Nat, (q < (p0 + 1) ∨ (p0 + 1) + 2 ≤ q) → Ω_7 q = Ω q := fun q g0 => (hF_7 q (by omega)).trans (hE q g0)
      generalize (f_X6_append p0t_0 p0t_1 x1) = Z_7 at h_p0t hR
      obtain ⟨z7_0, z7_1⟩ := Z_7
      dsimp only at h_p0t hR
      rw [f_X8_type_C36] at hR
      refine lv_aload_n hx hb dX8_type_36 rfl (lv_at hl 0 rfl) ?_
      refine o_get hx hb hts hown hK hW (inMBO_o h_p0) rfl ig8 0 (by decide) fl_X8_10 rfl dX8_type_37 ?_
      refine o_get hx hb hts hown hK hW (inTxt_o h_p0t) rfl ig6 1 (by decide) fl_X8_65 rfl dX8_type_40 ?_
      subst hR
      exact W.iret (v := z7_1) hx hb hr (fun t ht hW9 => ⟨⟨z7_1, Ω_7, rfl, ⟨rfl, h_p0t, hE⟩, by rw [oB, ht]; exact hW⟩, hS.F ht⟩) hS.2.2 dX8_type_43
    · rw [if_neg c_5] at hR
      have i_5 := rnlt c_5
      refine lv_bipush (v := (-3 : Int32)) hx hb dX8_type_25 (by decide) ?_
      subst hR
      exact W.iret (v := (-3 : Int32)) hx hb hr (fun t ht hW9 => ⟨⟨(-3 : Int32), Ω, rfl, ⟨rfl, h_p0t, hE⟩, by rw [oB, ht]; exact hW⟩, hS.F ht⟩) hS.2.2 dX8_type_27
  · rw [if_pos c_3] at hR
    have i_3 := congrArg Int32.toInt c_3
    refine lv_iconst (v := (-1 : Int32)) hx hb dX8_type_10 (by decide) ?_
    subst hR
    exact W.iret (v := (-1 : Int32)) hx hb hr (fun t ht hW9 => ⟨⟨(-1 : Int32), Ω, rfl, ⟨rfl, h_p0t, hE⟩, by rw [oB, ht]; exact hW⟩, hS.F ht⟩) hS.2.2 dX8_type_11
set_option maxHeartbeats 4000000 in
set_option maxRecDepth 100000 in
theorem c_X8_clear (l : Launch) (G : Gm) (A : Nat → Prop) (Ω : Om) (p0 : Nat) (p0b : Nat) (p0pb : Nat) (p0t_0 : Fn) (p0t_1 : Int32) (hbo : (p0b = p0 + 4 ∧ p0pb = p0 + 132) ∨ (p0b = p0 + 132 ∧ p0pb = p0 + 4)) (hT_p0t : 0 ≤ p0t_1.toInt ∧ p0t_1.toInt ≤ 160) (h_p0 : inMBO G Ω p0 p0b) (h_p0t : inTxt G Ω (p0 + 1) p0t_0 p0t_1) : Met l yX8_clear (wz yX8_clear cX8_clear 2 (some .int)) ({ frames := 0, cells := 0, slots := 0, locals := 0 } : Room) (va_Pc [.ref p0] (oS G A Ω)) (va_Qi (fun (r : Int32) (Ω1 : Om) => r = (f_X8_clear p0t_1).1 ∧ inTxt G Ω1 (p0 + 1) p0t_0 ((f_X8_clear p0t_1).2) ∧ (∀ q : Nat, (q < (p0 + 1) ∨ (p0 + 1) + 2 ≤ q) → Ω1 q = Ω q)) (oB G A) A) 0 0 A := by
  refine Met.ofW (cc := cX8_clear) (maxL := 2) (ret := (some .int)) (by decide) rfl ?_
  intro p e s m args below meth c s₁ B hml hv
  obtain ⟨rfl, hW, hK, hN, hZ⟩ := hv
  have hx := B.exec
  have hb := B.bytes
  have hr := B.returns
  have hts : ∀ w ∈ gt, w.before _ s = true := fun w hw => atoms_spec (ws := wz yX8_clear cX8_clear 2 (some .int)) B.pre w (List.mem_cons_of_mem _ hw)
  have hown : s.vm.findClass RX8 = some m.cls := findClass_of_methodNamed B.named
  have hlocks := B.notSynchronized
  have hA : ∀ q, A q → A q := fun _ h => h
  have hS : va_S A s.heap s.heap [] := va_S.rf
  have hS0 := hS
  have hl := lv_entry ([.ref p0]) (n := 2) (Nat.le_of_ble_eq_true rfl)
  rw [lg_entry_eq]
  generalize (lg_sl ([.ref p0]) ++ List.replicate (2 - (lg_sl ([.ref p0])).length) Slot.unset).toArray = ls at hl ⊢
  have hl : lv_has ls 2 [(0, .ref p0)] := hl
  have hE : ∀ q : Nat, (q < (p0 + 1) ∨ (p0 + 1) + 2 ≤ q) → Ω q = Ω q := by intros; rfl
  generalize hR : (f_X8_clear p0t_1) = R
  rw [f_X8_clear] at hR
  refine lv_aload_n hx hb dX8_clear_0 rfl (lv_at hl 0 rfl) ?_
  refine o_get hx hb hts hown hK hW (inMBO_o h_p0) rfl ig8 0 (by decide) fl_X8_10 rfl dX8_clear_1 ?_
  refine o_get hx hb hts hown hK hW (inTxt_o h_p0t) rfl ig6 1 (by decide) fl_X8_65 rfl dX8_clear_4 ?_
  refine lv_istore_n (lv' := [(1, .int p0t_1), (0, .ref p0)]) hx hb dX8_clear_7 rfl hl (by decide) rfl (fun ls hl => ?_)
  refine lv_aload_n hx hb dX8_clear_8 rfl (lv_at hl 1 rfl) ?_
  refine o_get hx hb hts hown hK hW (inMBO_o h_p0) rfl ig8 0 (by decide) fl_X8_10 rfl dX8_clear_9 ?_
  refine lv_iconst (v := (0 : Int32)) hx hb dX8_clear_12 (by decide) ?_
  refine vTxt_1 hx hb hts hown hK hW hS hA h_p0t fl_X8_65 dX8_clear_13 (fun Ω_1 H locs h_p0t hF_1 hW hS => ?_)
  have h_p0 := h_p0.keep (fun q h1 h2 => hF_1 q (by omega))
  have hE : ∀ q : Nat, (q < (p0 + 1) ∨ (p0 + 1) + 2 ≤ q) → Ω_1 q = Ω q := fun q g0 => (hF_1 q (by omega)).trans (hE q g0)
  refine lv_iload_n hx hb dX8_clear_16 rfl (lv_at hl 0 rfl) ?_
  subst hR
  exact W.iret (v := p0t_1) hx hb hr (fun t ht hW9 => ⟨⟨p0t_1, Ω_1, rfl, ⟨rfl, h_p0t, hE⟩, by rw [oB, ht]; exact hW⟩, hS.F ht⟩) hS.2.2 dX8_clear_17
set_option maxHeartbeats 4000000 in
set_option maxRecDepth 100000 in
theorem c_X8_resets (l : Launch) (G : Gm) (A : Nat → Prop) (Ω : Om) (p0 : Nat) (p0b : Nat) (p0pb : Nat) (p0n_0 : Int32) (p0n_1 : Int32) (p0nd_0 : Fn) (p0nd_1 : Fn) (p0nd_2 : Fn) (p0nd_3 : Fn) (p0nm_0 : Fn) (p0nm_1 : Fn) (p0nm_2 : Fn) (p0nm_3 : Fn) (p0nj_0 : Int32) (p0nj_1 : Fn) (p0nj_2 : Fn) (p0nj_3 : Fn) (p0h_0 : Nat → Sit) (p0h_1 : Int32) (p0h_2 : Int32) (p0b_0 : Blk) (hbo : (p0b = p0 + 4 ∧ p0pb = p0 + 132) ∨ (p0b = p0 + 132 ∧ p0pb = p0 + 4)) (hB_p0b : BlkInv p0b_0) (hx9 : 0 ≤ p0h_1.toInt ∧ p0h_1.toInt < 6) (h_p0 : inMBO G Ω p0 p0b) (h_p0n : inSitO G Ω (p0 + 18) p0n_0 p0n_1) (h_p0nd : inDev G Ω (p0 + 19) p0nd_0 p0nd_1 p0nd_2 p0nd_3) (h_p0nm : inDev G Ω (p0 + 24) p0nm_0 p0nm_1 p0nm_2 p0nm_3) (h_p0nj : inJou G Ω (p0 + 29) p0nj_0 p0nj_1 p0nj_2 p0nj_3) (h_p0h : inHis G Ω (p0 + 33) p0h_0 p0h_1 p0h_2) (h_p0b : inBlk G Ω p0b p0b_0) : Met l yX8_resets (wz yX8_resets cX8_resets 2 (some .int)) ({ frames := 4, cells := 0, slots := 0, locals := 124 } : Room) (va_Pc [.ref p0] (oS G A Ω)) (va_Qi (fun (r : Int32) (Ω1 : Om) => r = (f_X8_resets p0n_0 p0n_1 p0nd_0 p0nd_1 p0nd_2 p0nd_3 p0nm_0 p0nm_1 p0nm_2 p0nm_3 p0nj_0 p0nj_1 p0nj_2 p0nj_3 p0h_0 p0h_1 p0h_2 p0b_0).1 ∧ inSitO G Ω1 (p0 + 18) ((f_X8_resets p0n_0 p0n_1 p0nd_0 p0nd_1 p0nd_2 p0nd_3 p0nm_0 p0nm_1 p0nm_2 p0nm_3 p0nj_0 p0nj_1 p0nj_2 p0nj_3 p0h_0 p0h_1 p0h_2 p0b_0).2.1) ((f_X8_resets p0n_0 p0n_1 p0nd_0 p0nd_1 p0nd_2 p0nd_3 p0nm_0 p0nm_1 p0nm_2 p0nm_3 p0nj_0 p0nj_1 p0nj_2 p0nj_3 p0h_0 p0h_1 p0h_2 p0b_0).2.2.1) ∧ inDev G Ω1 (p0 + 19) ((f_X8_resets p0n_0 p0n_1 p0nd_0 p0nd_1 p0nd_2 p0nd_3 p0nm_0 p0nm_1 p0nm_2 p0nm_3 p0nj_0 p0nj_1 p0nj_2 p0nj_3 p0h_0 p0h_1 p0h_2 p0b_0).2.2.2.1) ((f_X8_resets p0n_0 p0n_1 p0nd_0 p0nd_1 p0nd_2 p0nd_3 p0nm_0 p0nm_1 p0nm_2 p0nm_3 p0nj_0 p0nj_1 p0nj_2 p0nj_3 p0h_0 p0h_1 p0h_2 p0b_0).2.2.2.2.1) ((f_X8_resets p0n_0 p0n_1 p0nd_0 p0nd_1 p0nd_2 p0nd_3 p0nm_0 p0nm_1 p0nm_2 p0nm_3 p0nj_0 p0nj_1 p0nj_2 p0nj_3 p0h_0 p0h_1 p0h_2 p0b_0).2.2.2.2.2.1) p0nd_3 ∧ inDev G Ω1 (p0 + 24) ((f_X8_resets p0n_0 p0n_1 p0nd_0 p0nd_1 p0nd_2 p0nd_3 p0nm_0 p0nm_1 p0nm_2 p0nm_3 p0nj_0 p0nj_1 p0nj_2 p0nj_3 p0h_0 p0h_1 p0h_2 p0b_0).2.2.2.2.2.2.1) ((f_X8_resets p0n_0 p0n_1 p0nd_0 p0nd_1 p0nd_2 p0nd_3 p0nm_0 p0nm_1 p0nm_2 p0nm_3 p0nj_0 p0nj_1 p0nj_2 p0nj_3 p0h_0 p0h_1 p0h_2 p0b_0).2.2.2.2.2.2.2.1) ((f_X8_resets p0n_0 p0n_1 p0nd_0 p0nd_1 p0nd_2 p0nd_3 p0nm_0 p0nm_1 p0nm_2 p0nm_3 p0nj_0 p0nj_1 p0nj_2 p0nj_3 p0h_0 p0h_1 p0h_2 p0b_0).2.2.2.2.2.2.2.2.1) p0nm_3 ∧ inJou G Ω1 (p0 + 29) ((f_X8_resets p0n_0 p0n_1 p0nd_0 p0nd_1 p0nd_2 p0nd_3 p0nm_0 p0nm_1 p0nm_2 p0nm_3 p0nj_0 p0nj_1 p0nj_2 p0nj_3 p0h_0 p0h_1 p0h_2 p0b_0).2.2.2.2.2.2.2.2.2.1) p0nj_1 p0nj_2 p0nj_3 ∧ inHis G Ω1 (p0 + 33) ((f_X8_resets p0n_0 p0n_1 p0nd_0 p0nd_1 p0nd_2 p0nd_3 p0nm_0 p0nm_1 p0nm_2 p0nm_3 p0nj_0 p0nj_1 p0nj_2 p0nj_3 p0h_0 p0h_1 p0h_2 p0b_0).2.2.2.2.2.2.2.2.2.2.1) ((f_X8_resets p0n_0 p0n_1 p0nd_0 p0nd_1 p0nd_2 p0nd_3 p0nm_0 p0nm_1 p0nm_2 p0nm_3 p0nj_0 p0nj_1 p0nj_2 p0nj_3 p0h_0 p0h_1 p0h_2 p0b_0).2.2.2.2.2.2.2.2.2.2.2.1) ((f_X8_resets p0n_0 p0n_1 p0nd_0 p0nd_1 p0nd_2 p0nd_3 p0nm_0 p0nm_1 p0nm_2 p0nm_3 p0nj_0 p0nj_1 p0nj_2 p0nj_3 p0h_0 p0h_1 p0h_2 p0b_0).2.2.2.2.2.2.2.2.2.2.2.2) ∧ (∀ q : Nat, (q < (p0 + 18) ∨ (p0 + 18) + 1 ≤ q) → (q < (p0 + 19) ∨ (p0 + 19) + 5 ≤ q) → (q < (p0 + 24) ∨ (p0 + 24) + 5 ≤ q) → (q < (p0 + 29) ∨ (p0 + 29) + 4 ≤ q) → (q < (p0 + 33) ∨ (p0 + 33) + 92 ≤ q) → Ω1 q = Ω q)) (oB G A) A) 0 0 A := by
  refine Met.ofW (cc := cX8_resets) (maxL := 2) (ret := (some .int)) (by decide) rfl ?_
  intro p e s m args below meth c s₁ B hml hv
  obtain ⟨rfl, hW, hK, hN, hZ⟩ := hv
  have hx := B.exec
  have hb := B.bytes
  have hr := B.returns
  have hts : ∀ w ∈ gt, w.before _ s = true := fun w hw => atoms_spec (ws := wz yX8_resets cX8_resets 2 (some .int)) B.pre w (List.mem_cons_of_mem _ hw)
  have hown : s.vm.findClass RX8 = some m.cls := findClass_of_methodNamed B.named
  have hlocks := B.notSynchronized
  have hA : ∀ q, A q → A q := fun _ h => h
  have hS : va_S A s.heap s.heap [] := va_S.rf
  have hS0 := hS
  have hl := lv_entry ([.ref p0]) (n := 2) (Nat.le_of_ble_eq_true rfl)
  rw [lg_entry_eq]
  generalize (lg_sl ([.ref p0]) ++ List.replicate (2 - (lg_sl ([.ref p0])).length) Slot.unset).toArray = ls at hl ⊢
  have hl : lv_has ls 2 [(0, .ref p0)] := hl
  have hE : ∀ q : Nat, (q < (p0 + 18) ∨ (p0 + 18) + 1 ≤ q) → (q < (p0 + 19) ∨ (p0 + 19) + 5 ≤ q) → (q < (p0 + 24) ∨ (p0 + 24) + 5 ≤ q) → (q < (p0 + 29) ∨ (p0 + 29) + 4 ≤ q) → (q < (p0 + 33) ∨ (p0 + 33) + 92 ≤ q) → Ω q = Ω q := by intros; rfl
  generalize hR : (f_X8_resets p0n_0 p0n_1 p0nd_0 p0nd_1 p0nd_2 p0nd_3 p0nm_0 p0nm_1 p0nm_2 p0nm_3 p0nj_0 p0nj_1 p0nj_2 p0nj_3 p0h_0 p0h_1 p0h_2 p0b_0) = R
  rw [f_X8_resets] at hR
  refine lv_aload_n hx hb dX8_resets_0 rfl (lv_at hl 0 rfl) ?_
  refine o_get hx hb hts hown hK hW (inMBO_o h_p0) rfl ig8 3 (by decide) fl_X8_35 rfl dX8_resets_1 ?_
  refine lv_aload_n hx hb dX8_resets_4 rfl (lv_at hl 0 rfl) ?_
  refine o_get hx hb hts hown hK hW (inMBO_o h_p0) rfl ig8 2 (by decide) fl_X8_28 rfl dX8_resets_5 ?_
  refine o_Vv (rest := []) (As := [.ref (p0 + 18)]) (n := 1) hx hb hml hown hts hK hN hZ hW hS hA (c_X2_remember l G A Ω (p0 + 33) (p0 + 18) p0h_0 p0h_1 p0h_2 p0n_0 p0n_1 p0nd_0 p0nd_1 p0nd_2 p0nd_3 p0nm_0 p0nm_1 p0nm_2 p0nm_3 p0nj_0 p0nj_1 p0nj_2 p0nj_3 (by omega) (by omega) h_p0h h_p0n h_p0nd h_p0nm h_p0nj) (inHis_o h_p0h) rfl (good_V ml_X8_88 im_X2_remember se_X2_remember ini_X2 co_X2_remember) (by decide +kernel) ⟨Nat.zero_le _, Nat.zero_le _⟩ hl.1 (Nat.le_of_ble_eq_true rfl) rfl rfl dX8_resets_8 (fun Ω_1 H locs hp hW hS => ?_)
  obtain ⟨h_p0h, hF_1⟩ := hp
  have h_p0 := h_p0.keep (fun q h1 h2 => hF_1 q (by omega))
  have h_p0n := h_p0n.keep (fun q h1 h2 => hF_1 q (by omega))
  have h_p0nd := h_p0nd.keep (fun q h1 h2 => hF_1 q (by omega))
  have h_p0nm := h_p0nm.keep (fun q h1 h2 => hF_1 q (by omega))
  have h_p0nj := h_p0nj.keep (fun q h1 h2 => hF_1 q (by omega))
  have h_p0b := h_p0b.keep (fun q h1 h2 => hF_1 q (by omega))
  have hE : ∀ q : Nat, (q < (p0 + 18) ∨ (p0 + 18) + 1 ≤ q) → (q < (p0 + 19) ∨ (p0 + 19) + 5 ≤ q) → (q < (p0 + 24) ∨ (p0 + 24) + 5 ≤ q) → (q < (p0 + 29) ∨ (p0 + 29) + 4 ≤ q) → (q < (p0 + 33) ∨ (p0 + 33) + 92 ≤ q) → Ω_1 q = Ω q := fun q g0 g1 g2 g3 g4 => (hF_1 q (by omega)).trans (hE q g0 g1 g2 g3 g4)
  generalize (f_X2_remember p0h_0 p0h_1 p0h_2 p0n_0 p0n_1 p0nd_0 p0nd_1 p0nd_2 p0nd_3 p0nm_0 p0nm_1 p0nm_2 p0nm_3 p0nj_0 p0nj_1 p0nj_2 p0nj_3) = Z_1 at h_p0h hR
  obtain ⟨z1_0, z1_1, z1_2⟩ := Z_1
  dsimp only at h_p0h hR
  rw [f_X8_resets_C11] at hR
  refine lv_aload_n hx hb dX8_resets_11 rfl (lv_at hl 0 rfl) ?_
  refine o_get hx hb hts hown hK hW (inMBO_o h_p0) rfl ig8 2 (by decide) fl_X8_28 rfl dX8_resets_12 ?_
  refine o_get hx hb hts hown hK hW (inSitO_o h_p0n) rfl ig5 2 (by decide) fl_X8_92 rfl dX8_resets_15 ?_
  refine o_get hx hb hts hown hK hW (inJou_o h_p0nj) rfl ig3 0 (by decide) fl_X8_96 rfl dX8_resets_18 ?_
  refine lv_istore_n (lv' := [(1, .int p0nj_0), (0, .ref p0)]) hx hb dX8_resets_21 rfl hl (by decide) rfl (fun ls hl => ?_)
  refine lv_aload_n hx hb dX8_resets_22 rfl (lv_at hl 1 rfl) ?_
  refine o_get hx hb hts hown hK hW (inMBO_o h_p0) rfl ig8 2 (by decide) fl_X8_28 rfl dX8_resets_23 ?_
  refine lv_aload_n hx hb dX8_resets_26 rfl (lv_at hl 1 rfl) ?_
  refine o_get hx hb hts hown hK hW (inMBO_o h_p0) rfl ig8 7 (by decide) fl_X8_57 rfl dX8_resets_27 ?_
  refine o_Vv (rest := []) (As := [.ref p0b]) (n := 1) hx hb hml hown hts hK hN hZ hW hS hA (c_X5_restart l G A Ω_1 (p0 + 18) p0b p0n_0 p0n_1 p0nd_0 p0nd_1 p0nd_2 p0nd_3 p0nm_0 p0nm_1 p0nm_2 p0nm_3 p0nj_0 p0nj_1 p0nj_2 p0nj_3 p0b_0 (by omega) hB_p0b h_p0n h_p0nd h_p0nm h_p0nj h_p0b) (inSitO_o h_p0n) rfl (good_V ml_X8_99 im_X5_restart se_X5_restart ini_X5 co_X5_restart) (by decide +kernel) ⟨Nat.zero_le _, Nat.zero_le _⟩ hl.1 (Nat.le_of_ble_eq_true rfl) rfl rfl dX8_resets_30 (fun Ω_2 H locs hp hW hS => ?_)
  obtain ⟨h_p0n, h_p0nd, h_p0nm, h_p0nj, hF_2⟩ := hp
  have h_p0 := h_p0.keep (fun q h1 h2 => hF_2 q (by omega) (by omega) (by omega) (by omega))
  have h_p0h := h_p0h.keep (fun q h1 h2 => hF_2 q (by omega) (by omega) (by omega) (by omega))
  have h_p0b := h_p0b.keep (fun q h1 h2 => hF_2 q (by omega) (by omega) (by omega) (by omega))
  have hE : ∀ q : Nat, (q < (p0 + 18) ∨ (p0 + 18) + 1 ≤ q) → (q < (p0 + 19) ∨ (p0 + 19) + 5 ≤ q) → (q < (p0 + 24) ∨ (p0 + 24) + 5 ≤ q) → (q < (p0 + 29) ∨ (p0 + 29) + 4 ≤ q) → (q < (p0 + 33) ∨ (p0 + 33) + 92 ≤ q) → Ω_2 q = Ω q := fun q g0 g1 g2 g3 g4 => (hF_2 q (by omega) (by omega) (by omega) (by omega)).trans (hE q g0 g1 g2 g3 g4)
  generalize (f_X5_restart p0nd_0 p0nd_1 p0nd_2 p0nm_0 p0nm_1 p0nm_2 p0b_0) = Z_2 at h_p0n h_p0nd h_p0nm h_p0nj hR
  obtain ⟨z2_0, z2_1, z2_2, z2_3, z2_4, z2_5, z2_6, z2_7, z2_8⟩ := Z_2
  dsimp only at h_p0n h_p0nd h_p0nm h_p0nj hR
  rw [f_X8_resets_C33] at hR
  refine lv_iload_n hx hb dX8_resets_33 rfl (lv_at hl 0 rfl) ?_
  subst hR
  exact W.iret (v := p0nj_0) hx hb hr (fun t ht hW9 => ⟨⟨p0nj_0, Ω_2, rfl, ⟨rfl, h_p0n, h_p0nd, h_p0nm, h_p0nj, h_p0h, hE⟩, by rw [oB, ht]; exact hW⟩, hS.F ht⟩) hS.2.2 dX8_resets_34
set_option maxHeartbeats 4000000 in
set_option maxRecDepth 100000 in
theorem c_X8_reads (l : Launch) (G : Gm) (A : Nat → Prop) (Ω : Om) (p0 : Nat) (p0b : Nat) (p0pb : Nat) (p0n_0 : Int32) (p0n_1 : Int32) (p0nd_0 : Fn) (p0nd_1 : Fn) (p0nd_2 : Fn) (p0nd_3 : Fn) (p0nm_0 : Fn) (p0nm_1 : Fn) (p0nm_2 : Fn) (p0nm_3 : Fn) (p0nj_0 : Int32) (p0nj_1 : Fn) (p0nj_2 : Fn) (p0nj_3 : Fn) (p0h_0 : Nat → Sit) (p0h_1 : Int32) (p0h_2 : Int32) (p0b_0 : Blk) (x1 : Int32) (hbo : (p0b = p0 + 4 ∧ p0pb = p0 + 132) ∨ (p0b = p0 + 132 ∧ p0pb = p0 + 4)) (hJ_p0nj : 0 ≤ p0nj_0.toInt ∧ p0nj_0.toInt ≤ 20) (hB_p0b : BlkInv p0b_0) (hx9 : 0 ≤ p0h_1.toInt ∧ p0h_1.toInt < 6) (h_p0 : inMBO G Ω p0 p0b) (h_p0n : inSitO G Ω (p0 + 18) p0n_0 p0n_1) (h_p0nd : inDev G Ω (p0 + 19) p0nd_0 p0nd_1 p0nd_2 p0nd_3) (h_p0nm : inDev G Ω (p0 + 24) p0nm_0 p0nm_1 p0nm_2 p0nm_3) (h_p0nj : inJou G Ω (p0 + 29) p0nj_0 p0nj_1 p0nj_2 p0nj_3) (h_p0h : inHis G Ω (p0 + 33) p0h_0 p0h_1 p0h_2) (h_p0b : inBlk G Ω p0b p0b_0) : Met l yX8_reads (wz yX8_reads cX8_reads 2 (some .int)) ({ frames := 6, cells := 0, slots := 0, locals := 137 } : Room) (va_Pc [.ref p0, .int x1] (oS G A Ω)) (va_Qi (fun (r : Int32) (Ω1 : Om) => r = (f_X8_reads p0n_0 p0n_1 p0nd_0 p0nd_1 p0nd_2 p0nd_3 p0nm_0 p0nm_1 p0nm_2 p0nm_3 p0nj_0 p0nj_1 p0nj_2 p0nj_3 p0h_0 p0h_1 p0h_2 p0b_0 x1).1 ∧ inSitO G Ω1 (p0 + 18) ((f_X8_reads p0n_0 p0n_1 p0nd_0 p0nd_1 p0nd_2 p0nd_3 p0nm_0 p0nm_1 p0nm_2 p0nm_3 p0nj_0 p0nj_1 p0nj_2 p0nj_3 p0h_0 p0h_1 p0h_2 p0b_0 x1).2.1) ((f_X8_reads p0n_0 p0n_1 p0nd_0 p0nd_1 p0nd_2 p0nd_3 p0nm_0 p0nm_1 p0nm_2 p0nm_3 p0nj_0 p0nj_1 p0nj_2 p0nj_3 p0h_0 p0h_1 p0h_2 p0b_0 x1).2.2.1) ∧ inDev G Ω1 (p0 + 19) ((f_X8_reads p0n_0 p0n_1 p0nd_0 p0nd_1 p0nd_2 p0nd_3 p0nm_0 p0nm_1 p0nm_2 p0nm_3 p0nj_0 p0nj_1 p0nj_2 p0nj_3 p0h_0 p0h_1 p0h_2 p0b_0 x1).2.2.2.1) p0nd_1 p0nd_2 p0nd_3 ∧ inDev G Ω1 (p0 + 24) ((f_X8_reads p0n_0 p0n_1 p0nd_0 p0nd_1 p0nd_2 p0nd_3 p0nm_0 p0nm_1 p0nm_2 p0nm_3 p0nj_0 p0nj_1 p0nj_2 p0nj_3 p0h_0 p0h_1 p0h_2 p0b_0 x1).2.2.2.2.1) p0nm_1 p0nm_2 p0nm_3 ∧ inJou G Ω1 (p0 + 29) ((f_X8_reads p0n_0 p0n_1 p0nd_0 p0nd_1 p0nd_2 p0nd_3 p0nm_0 p0nm_1 p0nm_2 p0nm_3 p0nj_0 p0nj_1 p0nj_2 p0nj_3 p0h_0 p0h_1 p0h_2 p0b_0 x1).2.2.2.2.2.1) ((f_X8_reads p0n_0 p0n_1 p0nd_0 p0nd_1 p0nd_2 p0nd_3 p0nm_0 p0nm_1 p0nm_2 p0nm_3 p0nj_0 p0nj_1 p0nj_2 p0nj_3 p0h_0 p0h_1 p0h_2 p0b_0 x1).2.2.2.2.2.2.1) ((f_X8_reads p0n_0 p0n_1 p0nd_0 p0nd_1 p0nd_2 p0nd_3 p0nm_0 p0nm_1 p0nm_2 p0nm_3 p0nj_0 p0nj_1 p0nj_2 p0nj_3 p0h_0 p0h_1 p0h_2 p0b_0 x1).2.2.2.2.2.2.2.1) ((f_X8_reads p0n_0 p0n_1 p0nd_0 p0nd_1 p0nd_2 p0nd_3 p0nm_0 p0nm_1 p0nm_2 p0nm_3 p0nj_0 p0nj_1 p0nj_2 p0nj_3 p0h_0 p0h_1 p0h_2 p0b_0 x1).2.2.2.2.2.2.2.2.1) ∧ inHis G Ω1 (p0 + 33) ((f_X8_reads p0n_0 p0n_1 p0nd_0 p0nd_1 p0nd_2 p0nd_3 p0nm_0 p0nm_1 p0nm_2 p0nm_3 p0nj_0 p0nj_1 p0nj_2 p0nj_3 p0h_0 p0h_1 p0h_2 p0b_0 x1).2.2.2.2.2.2.2.2.2.1) ((f_X8_reads p0n_0 p0n_1 p0nd_0 p0nd_1 p0nd_2 p0nd_3 p0nm_0 p0nm_1 p0nm_2 p0nm_3 p0nj_0 p0nj_1 p0nj_2 p0nj_3 p0h_0 p0h_1 p0h_2 p0b_0 x1).2.2.2.2.2.2.2.2.2.2.1) ((f_X8_reads p0n_0 p0n_1 p0nd_0 p0nd_1 p0nd_2 p0nd_3 p0nm_0 p0nm_1 p0nm_2 p0nm_3 p0nj_0 p0nj_1 p0nj_2 p0nj_3 p0h_0 p0h_1 p0h_2 p0b_0 x1).2.2.2.2.2.2.2.2.2.2.2) ∧ (∀ q : Nat, (q < (p0 + 18) ∨ (p0 + 18) + 1 ≤ q) → (q < (p0 + 19) ∨ (p0 + 19) + 5 ≤ q) → (q < (p0 + 24) ∨ (p0 + 24) + 5 ≤ q) → (q < (p0 + 29) ∨ (p0 + 29) + 4 ≤ q) → (q < (p0 + 33) ∨ (p0 + 33) + 92 ≤ q) → Ω1 q = Ω q)) (oB G A) A) 0 0 A := by
  refine Met.ofW (cc := cX8_reads) (maxL := 2) (ret := (some .int)) (by decide) rfl ?_
  intro p e s m args below meth c s₁ B hml hv
  obtain ⟨rfl, hW, hK, hN, hZ⟩ := hv
  have hx := B.exec
  have hb := B.bytes
  have hr := B.returns
  have hts : ∀ w ∈ gt, w.before _ s = true := fun w hw => atoms_spec (ws := wz yX8_reads cX8_reads 2 (some .int)) B.pre w (List.mem_cons_of_mem _ hw)
  have hown : s.vm.findClass RX8 = some m.cls := findClass_of_methodNamed B.named
  have hlocks := B.notSynchronized
  have hA : ∀ q, A q → A q := fun _ h => h
  have hS : va_S A s.heap s.heap [] := va_S.rf
  have hS0 := hS
  have hl := lv_entry ([.ref p0, .int x1]) (n := 2) (Nat.le_of_ble_eq_true rfl)
  rw [lg_entry_eq]
  generalize (lg_sl ([.ref p0, .int x1]) ++ List.replicate (2 - (lg_sl ([.ref p0, .int x1])).length) Slot.unset).toArray = ls at hl ⊢
  have hl : lv_has ls 2 [(0, .ref p0), (1, .int x1)] := hl
  have hE : ∀ q : Nat, (q < (p0 + 18) ∨ (p0 + 18) + 1 ≤ q) → (q < (p0 + 19) ∨ (p0 + 19) + 5 ≤ q) → (q < (p0 + 24) ∨ (p0 + 24) + 5 ≤ q) → (q < (p0 + 29) ∨ (p0 + 29) + 4 ≤ q) → (q < (p0 + 33) ∨ (p0 + 33) + 92 ≤ q) → Ω q = Ω q := by intros; rfl
  generalize hR : (f_X8_reads p0n_0 p0n_1 p0nd_0 p0nd_1 p0nd_2 p0nd_3 p0nm_0 p0nm_1 p0nm_2 p0nm_3 p0nj_0 p0nj_1 p0nj_2 p0nj_3 p0h_0 p0h_1 p0h_2 p0b_0 x1) = R
  rw [f_X8_reads] at hR
  refine lv_iload_n hx hb dX8_reads_0 rfl (lv_at hl 1 rfl) ?_
  refine lv_bipush (v := (16 : Int32)) hx hb dX8_reads_1 (by decide) ?_
  have j_1 : (16 : Int32).toInt = 16 := by decide
  refine o_SiR (rest := []) (As := [.int x1, .int (16 : Int32)]) (n := 2) hx hb hml hown hts hK hN hZ hW hS hA (c_X8_isWithin l G A Ω x1 (16 : Int32)) ml_X8_61 st_X8_isWithin ini_X8 co_X8_isWithin (by decide +kernel) ⟨Nat.zero_le _, Nat.zero_le _⟩ hl.1 (Nat.le_of_ble_eq_true rfl) rfl rfl dX8_reads_3 (fun r H locs hp hW hS => ?_)
  obtain ⟨rfl, hz_2⟩ := hp
  have j_4 : (0 : Int32).toInt = 0 := by decide
  refine lv_if_ne (tgt := 11) hx hb dX8_reads_6 (by decide) (fun c_3 => ?_) (fun c_3 => ?_)
  · rw [if_neg c_3] at hR
    have i_3 := rne c_3
    have b_c_3 := rIW c_3
    refine lv_aload_n hx hb dX8_reads_11 rfl (lv_at hl 0 rfl) ?_
    refine o_get hx hb hts hown hK hW (inMBO_o h_p0) rfl ig8 2 (by decide) fl_X8_28 rfl dX8_reads_12 ?_
    refine o_get hx hb hts hown hK hW (inSitO_o h_p0n) rfl ig5 2 (by decide) fl_X8_92 rfl dX8_reads_15 ?_
    refine o_get hx hb hts hown hK hW (inJou_o h_p0nj) rfl ig3 0 (by decide) fl_X8_96 rfl dX8_reads_18 ?_
    refine lv_bipush (v := (20 : Int32)) hx hb dX8_reads_21 (by decide) ?_
    have j_6 : (20 : Int32).toInt = 20 := by decide
    refine lv_icmp_lt (tgt := 29) hx hb dX8_reads_23 (by decide) (fun c_5 => ?_) (fun c_5 => ?_)
    · rw [if_pos c_5] at hR
      have i_5 := rlt c_5
      refine lv_aload_n hx hb dX8_reads_29 rfl (lv_at hl 0 rfl) ?_
      refine o_get hx hb hts hown hK hW (inMBO_o h_p0) rfl ig8 3 (by decide) fl_X8_35 rfl dX8_reads_30 ?_
      refine lv_aload_n hx hb dX8_reads_33 rfl (lv_at hl 0 rfl) ?_
      refine o_get hx hb hts hown hK hW (inMBO_o h_p0) rfl ig8 2 (by decide) fl_X8_28 rfl dX8_reads_34 ?_
      refine o_Vv (rest := []) (As := [.ref (p0 + 18)]) (n := 1) hx hb hml hown hts hK hN hZ hW hS hA (c_X2_remember l G A Ω (p0 + 33) (p0 + 18) p0h_0 p0h_1 p0h_2 p0n_0 p0n_1 p0nd_0 p0nd_1 p0nd_2 p0nd_3 p0nm_0 p0nm_1 p0nm_2 p0nm_3 p0nj_0 p0nj_1 p0nj_2 p0nj_3 (by omega) (by omega) h_p0h h_p0n h_p0nd h_p0nm h_p0nj) (inHis_o h_p0h) rfl (good_V ml_X8_88 im_X2_remember se_X2_remember ini_X2 co_X2_remember) (by decide +kernel) ⟨Nat.zero_le _, Nat.zero_le _⟩ hl.1 (Nat.le_of_ble_eq_true rfl) rfl rfl dX8_reads_37 (fun Ω_7 H locs hp hW hS => ?_)
      obtain ⟨h_p0h, hF_7⟩ := hp
      have h_p0 := h_p0.keep (fun q h1 h2 => hF_7 q (by omega))
      have h_p0n := h_p0n.keep (fun q h1 h2 => hF_7 q (by omega))
      have h_p0nd := h_p0nd.keep (fun q h1 h2 => hF_7 q (by omega))
      have h_p0nm := h_p0nm.keep (fun q h1 h2 => hF_7 q (by omega))
      have h_p0nj := h_p0nj.keep (fun q h1 h2 => hF_7 q (by omega))
      have h_p0b := h_p0b.keep (fun q h1 h2 => hF_7 q (by omega))
      have hE : ∀ q : Nat, (q < (p0 + 18) ∨ (p0 + 18) + 1 ≤ q) → (q < (p0 + 19) ∨ (p0 + 19) + 5 ≤ q) → (q < (p0 + 24) ∨ (p0 + 24) + 5 ≤ q) → (q < (p0 + 29) ∨ (p0 + 29) + 4 ≤ q) → (q < (p0 + 33) ∨ (p0 + 33) + 92 ≤ q) → Ω_7 q = Ω q := fun q g0 g1 g2 g3 g4 => (hF_7 q (by omega)).trans (hE q g0 g1 g2 g3 g4)
      generalize (f_X2_remember p0h_0 p0h_1 p0h_2 p0n_0 p0n_1 p0nd_0 p0nd_1 p0nd_2 p0nd_3 p0nm_0 p0nm_1 p0nm_2 p0nm_3 p0nj_0 p0nj_1 p0nj_2 p0nj_3) = Z_7 at h_p0h hR
      obtain ⟨z7_0, z7_1, z7_2⟩ := Z_7
      dsimp only at h_p0h hR
      rw [f_X8_reads_C40] at hR
      refine lv_aload_n hx hb dX8_reads_40 rfl (lv_at hl 0 rfl) ?_
      refine o_get hx hb hts hown hK hW (inMBO_o h_p0) rfl ig8 2 (by decide) fl_X8_28 rfl dX8_reads_41 ?_
      refine lv_aload_n hx hb dX8_reads_44 rfl (lv_at hl 0 rfl) ?_
      refine o_get hx hb hts hown hK hW (inMBO_o h_p0) rfl ig8 7 (by decide) fl_X8_57 rfl dX8_reads_45 ?_
      refine lv_iload_n hx hb dX8_reads_48 rfl (lv_at hl 1 rfl) ?_
      refine o_Vi (rest := []) (As := [.ref p0b, .int x1]) (n := 2) hx hb hml hown hts hK hN hZ hW hS hA (c_X5_performRead l G A Ω_7 (p0 + 18) p0b p0n_0 p0n_1 p0nd_0 p0nd_1 p0nd_2 p0nd_3 p0nm_0 p0nm_1 p0nm_2 p0nm_3 p0nj_0 p0nj_1 p0nj_2 p0nj_3 p0b_0 x1 (by omega) (by omega) hB_p0b h_p0n h_p0nd h_p0nm h_p0nj h_p0b) (inSitO_o h_p0n) rfl (good_V ml_X8_102 im_X5_performRead se_X5_performRead ini_X5 co_X5_performRead) (by decide +kernel) ⟨Nat.zero_le _, Nat.zero_le _⟩ hl.1 (Nat.le_of_ble_eq_true rfl) rfl rfl dX8_reads_49 (fun r Ω_8 H locs hp hW hS => ?_)
      obtain ⟨rfl, h_p0n, h_p0nd, h_p0nm, h_p0nj, hF_8⟩ := hp
      have h_p0 := h_p0.keep (fun q h1 h2 => hF_8 q (by omega) (by omega) (by omega) (by omega))
      have h_p0h := h_p0h.keep (fun q h1 h2 => hF_8 q (by omega) (by omega) (by omega) (by omega))
      have h_p0b := h_p0b.keep (fun q h1 h2 => hF_8 q (by omega) (by omega) (by omega) (by omega))
      have hE : ∀ q : Nat, (q < (p0 + 18) ∨ (p0 + 18) + 1 ≤ q) → (q < (p0 + 19) ∨ (p0 + 19) + 5 ≤ q) → (q < (p0 + 24) ∨ (p0 + 24) + 5 ≤ q) → (q < (p0 + 29) ∨ (p0 + 29) + 4 ≤ q) → (q < (p0 + 33) ∨ (p0 + 33) + 92 ≤ q) → Ω_8 q = Ω q := fun q g0 g1 g2 g3 g4 => (hF_8 q (by omega) (by omega) (by omega) (by omega)).trans (hE q g0 g1 g2 g3 g4)
      generalize (f_X5_performRead p0n_0 p0nd_0 p0nd_3 p0nm_0 p0nm_3 p0nj_0 p0nj_1 p0nj_2 p0nj_3 p0b_0 x1) = Z_8 at h_p0n h_p0nd h_p0nm h_p0nj hR ⊢
      obtain ⟨z8_0, z8_1, z8_2, z8_3, z8_4, z8_5, z8_6, z8_7, z8_8⟩ := Z_8
      dsimp only at h_p0n h_p0nd h_p0nm h_p0nj hR ⊢
      rw [f_X8_reads_C52] at hR
      subst hR
      exact W.iret (v := z8_0) hx hb hr (fun t ht hW9 => ⟨⟨z8_0, Ω_8, rfl, ⟨rfl, h_p0n, h_p0nd, h_p0nm, h_p0nj, h_p0h, hE⟩, by rw [oB, ht]; exact hW⟩, hS.F ht⟩) hS.2.2 dX8_reads_52
    · rw [if_neg c_5] at hR
      have i_5 := rnlt c_5
      refine lv_bipush (v := (-3 : Int32)) hx hb dX8_reads_26 (by decide) ?_
      subst hR
      exact W.iret (v := (-3 : Int32)) hx hb hr (fun t ht hW9 => ⟨⟨(-3 : Int32), Ω, rfl, ⟨rfl, h_p0n, h_p0nd, h_p0nm, h_p0nj, h_p0h, hE⟩, by rw [oB, ht]; exact hW⟩, hS.F ht⟩) hS.2.2 dX8_reads_28
  · rw [if_pos c_3] at hR
    have i_3 := congrArg Int32.toInt c_3
    refine lv_iconst (v := (-1 : Int32)) hx hb dX8_reads_9 (by decide) ?_
    subst hR
    exact W.iret (v := (-1 : Int32)) hx hb hr (fun t ht hW9 => ⟨⟨(-1 : Int32), Ω, rfl, ⟨rfl, h_p0n, h_p0nd, h_p0nm, h_p0nj, h_p0h, hE⟩, by rw [oB, ht]; exact hW⟩, hS.F ht⟩) hS.2.2 dX8_reads_10
set_option maxHeartbeats 4000000 in
set_option maxRecDepth 100000 in
theorem c_X8_changedBy (l : Launch) (G : Gm) (A : Nat → Prop) (Ω : Om) (p0 : Nat) (p0b : Nat) (p0pb : Nat) (p0n_0 : Int32) (p0n_1 : Int32) (p0nd_0 : Fn) (p0nd_1 : Fn) (p0nd_2 : Fn) (p0nd_3 : Fn) (p0v_0 : Fn) (p0v_1 : Fn) (p0v_2 : Fn) (p0v_3 : Fn) (p0b_0 : Blk) (x1 : Int32) (x2 : Int32) (hbo : (p0b = p0 + 4 ∧ p0pb = p0 + 132) ∨ (p0b = p0 + 132 ∧ p0pb = p0 + 4)) (hB_p0b : BlkInv p0b_0) (h_p0 : inMBO G Ω p0 p0b) (h_p0n : inSitO G Ω (p0 + 18) p0n_0 p0n_1) (h_p0nd : inDev G Ω (p0 + 19) p0nd_0 p0nd_1 p0nd_2 p0nd_3) (h_p0v : inDev G Ω (p0 + 127) p0v_0 p0v_1 p0v_2 p0v_3) (h_p0b : inBlk G Ω p0b p0b_0) : Met l yX8_changedBy (wz yX8_changedBy cX8_changedBy 5 (some .int)) ({ frames := 4, cells := 0, slots := 0, locals := 97 } : Room) (va_Pc [.ref p0, .int x1, .int x2] (oS G A Ω)) (va_Qi (fun (r : Int32) (Ω1 : Om) => r = (f_X8_changedBy p0nd_0 p0nd_1 p0nd_2 p0nd_3 p0v_0 p0v_1 p0v_2 p0v_3 p0b_0 x1 x2).1 ∧ inDev G Ω1 (p0 + 127) ((f_X8_changedBy p0nd_0 p0nd_1 p0nd_2 p0nd_3 p0v_0 p0v_1 p0v_2 p0v_3 p0b_0 x1 x2).2.1) ((f_X8_changedBy p0nd_0 p0nd_1 p0nd_2 p0nd_3 p0v_0 p0v_1 p0v_2 p0v_3 p0b_0 x1 x2).2.2.1) ((f_X8_changedBy p0nd_0 p0nd_1 p0nd_2 p0nd_3 p0v_0 p0v_1 p0v_2 p0v_3 p0b_0 x1 x2).2.2.2.1) ((f_X8_changedBy p0nd_0 p0nd_1 p0nd_2 p0nd_3 p0v_0 p0v_1 p0v_2 p0v_3 p0b_0 x1 x2).2.2.2.2) ∧ (∀ q : Nat, (q < (p0 + 127) ∨ (p0 + 127) + 5 ≤ q) → Ω1 q = Ω q)) (oB G A) A) 0 0 A := by
  refine Met.ofW (cc := cX8_changedBy) (maxL := 5) (ret := (some .int)) (by decide) rfl ?_
  intro p e s m args below meth c s₁ B hml hv
  obtain ⟨rfl, hW, hK, hN, hZ⟩ := hv
  have hx := B.exec
  have hb := B.bytes
  have hr := B.returns
  have hts : ∀ w ∈ gt, w.before _ s = true := fun w hw => atoms_spec (ws := wz yX8_changedBy cX8_changedBy 5 (some .int)) B.pre w (List.mem_cons_of_mem _ hw)
  have hown : s.vm.findClass RX8 = some m.cls := findClass_of_methodNamed B.named
  have hlocks := B.notSynchronized
  have hA : ∀ q, A q → A q := fun _ h => h
  have hS : va_S A s.heap s.heap [] := va_S.rf
  have hS0 := hS
  have hl := lv_entry ([.ref p0, .int x1, .int x2]) (n := 5) (Nat.le_of_ble_eq_true rfl)
  rw [lg_entry_eq]
  generalize (lg_sl ([.ref p0, .int x1, .int x2]) ++ List.replicate (5 - (lg_sl ([.ref p0, .int x1, .int x2])).length) Slot.unset).toArray = ls at hl ⊢
  have hl : lv_has ls 5 [(0, .ref p0), (1, .int x1), (2, .int x2)] := hl
  have hE : ∀ q : Nat, (q < (p0 + 127) ∨ (p0 + 127) + 5 ≤ q) → Ω q = Ω q := by intros; rfl
  generalize hR : (f_X8_changedBy p0nd_0 p0nd_1 p0nd_2 p0nd_3 p0v_0 p0v_1 p0v_2 p0v_3 p0b_0 x1 x2) = R
  rw [f_X8_changedBy] at hR
  refine lv_aload_n hx hb dX8_changedBy_0 rfl (lv_at hl 0 rfl) ?_
  refine o_get hx hb hts hown hK hW (inMBO_o h_p0) rfl ig8 6 (by decide) fl_X8_50 rfl dX8_changedBy_1 ?_
  refine lv_aload_n hx hb dX8_changedBy_4 rfl (lv_at hl 0 rfl) ?_
  refine o_get hx hb hts hown hK hW (inMBO_o h_p0) rfl ig8 2 (by decide) fl_X8_28 rfl dX8_changedBy_5 ?_
  refine o_get hx hb hts hown hK hW (inSitO_o h_p0n) rfl ig5 0 (by decide) fl_X8_117 rfl dX8_changedBy_8 ?_
  refine o_Vv (rest := []) (As := [.ref (p0 + 19)]) (n := 1) hx hb hml hown hts hK hN hZ hW hS hA (c_X1_copyFrom l G A Ω (p0 + 127) (p0 + 19) p0v_0 p0v_1 p0v_2 p0v_3 p0nd_0 p0nd_1 p0nd_2 p0nd_3 (by omega) h_p0v h_p0nd) (inDev_o h_p0v) rfl (good_V ml_X8_235 im_X1_copyFrom se_X1_copyFrom ini_X1 co_X1_copyFrom) (by decide +kernel) ⟨Nat.zero_le _, Nat.zero_le _⟩ hl.1 (Nat.le_of_ble_eq_true rfl) rfl rfl dX8_changedBy_11 (fun Ω_1 H locs hp hW hS => ?_)
  obtain ⟨h_p0v, hF_1⟩ := hp
  have h_p0 := h_p0.keep (fun q h1 h2 => hF_1 q (by omega))
  have h_p0n := h_p0n.keep (fun q h1 h2 => hF_1 q (by omega))
  have h_p0nd := h_p0nd.keep (fun q h1 h2 => hF_1 q (by omega))
  have h_p0b := h_p0b.keep (fun q h1 h2 => hF_1 q (by omega))
  have hE : ∀ q : Nat, (q < (p0 + 127) ∨ (p0 + 127) + 5 ≤ q) → Ω_1 q = Ω q := fun q g0 => (hF_1 q (by omega)).trans (hE q g0)
  generalize (f_X1_copyFrom p0v_0 p0v_1 p0v_2 p0v_3 p0nd_0 p0nd_1 p0nd_2 p0nd_3) = Z_1 at h_p0v hR
  obtain ⟨z1_0, z1_1, z1_2, z1_3⟩ := Z_1
  dsimp only at h_p0v hR
  rw [f_X8_changedBy_C14] at hR
  refine lv_aload_n hx hb dX8_changedBy_14 rfl (lv_at hl 0 rfl) ?_
  refine o_get hx hb hts hown hK hW (inMBO_o h_p0) rfl ig8 6 (by decide) fl_X8_50 rfl dX8_changedBy_15 ?_
  refine lv_aload_n hx hb dX8_changedBy_18 rfl (lv_at hl 0 rfl) ?_
  refine o_get hx hb hts hown hK hW (inMBO_o h_p0) rfl ig8 7 (by decide) fl_X8_57 rfl dX8_changedBy_19 ?_
  refine lv_iload_n hx hb dX8_changedBy_22 rfl (lv_at hl 1 rfl) ?_
  refine lv_iload_n hx hb dX8_changedBy_23 rfl (lv_at hl 2 rfl) ?_
  refine o_Vv (rest := []) (As := [.ref p0b, .int x1, .int x2]) (n := 3) hx hb hml hown hts hK hN hZ hW hS hA (c_X1_write l G A Ω_1 (p0 + 127) p0b z1_0 z1_1 z1_2 z1_3 p0b_0 x1 x2 (by omega) hB_p0b h_p0v h_p0b) (inDev_o h_p0v) rfl (good_V ml_X8_238 im_X1_write se_X1_write ini_X1 co_X1_write) (by decide +kernel) ⟨Nat.zero_le _, Nat.zero_le _⟩ hl.1 (Nat.le_of_ble_eq_true rfl) rfl rfl dX8_changedBy_24 (fun Ω_2 H locs hp hW hS => ?_)
  obtain ⟨h_p0v, hF_2⟩ := hp
  have h_p0 := h_p0.keep (fun q h1 h2 => hF_2 q (by omega))
  have h_p0n := h_p0n.keep (fun q h1 h2 => hF_2 q (by omega))
  have h_p0nd := h_p0nd.keep (fun q h1 h2 => hF_2 q (by omega))
  have h_p0b := h_p0b.keep (fun q h1 h2 => hF_2 q (by omega))
  have hE : ∀ q : Nat, (q < (p0 + 127) ∨ (p0 + 127) + 5 ≤ q) → Ω_2 q = Ω q := fun q g0 => (hF_2 q (by omega)).trans (hE q g0)
  generalize (f_X1_write z1_0 z1_1 z1_2 z1_3 p0b_0 x1 x2) = Z_2 at h_p0v hR
  obtain ⟨z2_0, z2_1, z2_2⟩ := Z_2
  dsimp only at h_p0v hR
  rw [f_X8_changedBy_C27] at hR
  refine lv_iconst (v := (0 : Int32)) hx hb dX8_changedBy_27 (by decide) ?_
  refine lv_istore_n (lv' := [(3, .int (0 : Int32)), (0, .ref p0), (1, .int x1), (2, .int x2)]) hx hb dX8_changedBy_28 rfl hl (by decide) rfl (fun ls hl => ?_)
  refine lv_iconst (v := (0 : Int32)) hx hb dX8_changedBy_29 (by decide) ?_
  refine lv_istore (lv' := [(4, .int (0 : Int32)), (3, .int (0 : Int32)), (0, .ref p0), (1, .int x1), (2, .int x2)]) hx hb dX8_changedBy_30 hl (by decide) rfl (fun ls hl => ?_)
  have L32 : ∀ (n_4 : Nat) (x3_3 : Int32) (x4_3 : Int32) (H : Heap) (locs : List Loc), (0 ≤ x4_3.toInt ∧ x4_3.toInt ≤ 12 ∧ 12 - x4_3.toInt < n_4) → oW G A Ω_2 H → va_S A s.heap H locs → ∀ ls : Array Slot, lv_has ls 5 [(0, .ref p0), (3, .int x3_3), (4, .int x4_3)] → (f_X8_changedBy_L32 p0nd_0 z2_0 z2_1 z2_2 z1_3 p0b_0 n_4 x3_3 x4_3) = R → W p l e (headSpec (wz yX8_changedBy cX8_changedBy 5 (some .int)) ({ frames := 4, cells := 0, slots := 0, locals := 97 } : Room)).room s m ([.ref p0, .int x1, .int x2] : List Value).toArray below meth c H locs 0 0 (MQ below (va_Qi (fun (r : Int32) (Ω1 : Om) => r = R.1 ∧ inDev G Ω1 (p0 + 127) (R.2.1) (R.2.2.1) (R.2.2.2.1) (R.2.2.2.2) ∧ (∀ q : Nat, (q < (p0 + 127) ∨ (p0 + 127) + 5 ≤ q) → Ω1 q = Ω q)) (oB G A) A) ([.ref p0, .int x1, .int x2] : List Value).toArray s 0 0 A) (F0 m 32 ls []) := by
    intro n_4
    induction n_4 with
    | zero =>
      intro x3_3 x4_3 H locs v_32_0 hW hS ls hl hR
      exfalso
      omega
    | succ n_4 ih32 =>
      intro x3_3 x4_3 H locs v_32_0 hW hS ls hl hR
      rw [f_X8_changedBy_L32] at hR
      refine lv_iload hx hb dX8_changedBy_32 (lv_at hl 2 rfl) ?_
      refine lv_aload_n hx hb dX8_changedBy_34 rfl (lv_at hl 0 rfl) ?_
      refine o_get hx hb hts hown hK hW (inMBO_o h_p0) rfl ig8 7 (by decide) fl_X8_57 rfl dX8_changedBy_35 ?_
      refine o_get hx hb hts hown hK hW (inBlk_o h_p0b) rfl ig0 1 (by decide) fl_X8_126 rfl dX8_changedBy_38 ?_
      try have j_6 : 0 ≤ (p0b_0 0 1).toInt ∧ (p0b_0 0 1).toInt ≤ 12 := BI_flds (by assumption)
      refine lv_icmp_ge (tgt := 89) hx hb dX8_changedBy_41 (by decide) (fun c_5 => ?_) (fun c_5 => ?_)
      · rw [if_pos c_5] at hR
        have i_5 := rle c_5
        refine lv_iload_n hx hb dX8_changedBy_89 rfl (lv_at hl 1 rfl) ?_
        subst hR
        exact W.iret (v := x3_3) hx hb hr (fun t ht hW9 => ⟨⟨x3_3, Ω_2, rfl, ⟨rfl, h_p0v, hE⟩, by rw [oB, ht]; exact hW⟩, hS.F ht⟩) hS.2.2 dX8_changedBy_90
      · rw [if_neg c_5] at hR
        have i_5 := rnle c_5
        refine lv_aload_n hx hb dX8_changedBy_44 rfl (lv_at hl 0 rfl) ?_
        refine o_get hx hb hts hown hK hW (inMBO_o h_p0) rfl ig8 6 (by decide) fl_X8_50 rfl dX8_changedBy_45 ?_
        refine lv_aload_n hx hb dX8_changedBy_48 rfl (lv_at hl 0 rfl) ?_
        refine o_get hx hb hts hown hK hW (inMBO_o h_p0) rfl ig8 7 (by decide) fl_X8_57 rfl dX8_changedBy_49 ?_
        refine lv_iload hx hb dX8_changedBy_52 (lv_at hl 2 rfl) ?_
        refine o_ViR (rest := []) (As := [.ref p0b, .int x4_3]) (n := 2) hx hb hml hown hts hK hN hZ hW hS hA (c_X1_valueOf l G A Ω_2 (p0 + 127) p0b z2_0 z2_1 z2_2 z1_3 p0b_0 x4_3 hB_p0b (by omega) h_p0v h_p0b) (inDev_o h_p0v) rfl (good_V ml_X8_120 im_X1_valueOf se_X1_valueOf ini_X1 co_X1_valueOf) (by decide +kernel) ⟨Nat.zero_le _, Nat.zero_le _⟩ hl.1 (Nat.le_of_ble_eq_true rfl) rfl rfl dX8_changedBy_54 (fun r H locs hp hW hS => ?_)
        subst hp
        refine lv_aload_n hx hb dX8_changedBy_57 rfl (lv_at hl 0 rfl) ?_
        refine o_get hx hb hts hown hK hW (inMBO_o h_p0) rfl ig8 2 (by decide) fl_X8_28 rfl dX8_changedBy_58 ?_
        refine o_get hx hb hts hown hK hW (inSitO_o h_p0n) rfl ig5 0 (by decide) fl_X8_117 rfl dX8_changedBy_61 ?_
        refine lv_aload_n hx hb dX8_changedBy_64 rfl (lv_at hl 0 rfl) ?_
        refine o_get hx hb hts hown hK hW (inMBO_o h_p0) rfl ig8 7 (by decide) fl_X8_57 rfl dX8_changedBy_65 ?_
        refine lv_iload hx hb dX8_changedBy_68 (lv_at hl 2 rfl) ?_
        refine o_ViR (rest := [.int (f_X1_valueOf z2_0 p0b_0 x4_3)]) (As := [.ref p0b, .int x4_3]) (n := 2) hx hb hml hown hts hK hN hZ hW hS hA (c_X1_valueOf l G A Ω_2 (p0 + 19) p0b p0nd_0 p0nd_1 p0nd_2 p0nd_3 p0b_0 x4_3 hB_p0b (by omega) h_p0nd h_p0b) (inDev_o h_p0nd) rfl (good_V ml_X8_120 im_X1_valueOf se_X1_valueOf ini_X1 co_X1_valueOf) (by decide +kernel) ⟨Nat.zero_le _, Nat.zero_le _⟩ hl.1 (Nat.le_of_ble_eq_true rfl) rfl rfl dX8_changedBy_70 (fun r H locs hp hW hS => ?_)
        subst hp
        refine lv_icmp_eq (tgt := 83) hx hb dX8_changedBy_73 (by decide) (fun c_9 => ?_) (fun c_9 => ?_)
        · rw [if_pos c_9] at hR
          have i_9 := congrArg Int32.toInt c_9
          refine lv_iinc (v := (x4_3 + (1 : Int32))) (lv' := [(4, .int (x4_3 + (1 : Int32))), (0, .ref p0), (3, .int x3_3)]) hx hb dX8_changedBy_83 hl (k := 2) rfl rfl (by decide) rfl (fun ls hl => ?_)
          refine lv_goto (tgt := 32) hx hb dX8_changedBy_86 (by decide) ?_
          have j_10 : (1 : Int32).toInt = 1 := by decide
          try have j_11 : (x4_3 + (1 : Int32)).toInt = x4_3.toInt + (1 : Int32).toInt := fb_addI (by omega) (by omega)
          exact ih32 x3_3 (x4_3 + (1 : Int32)) H locs (by omega) hW hS ls (lv_sub hl [1, 2, 0] rfl) hR
        · rw [if_neg c_9] at hR
          have i_9 := rne c_9
          refine lv_iload_n hx hb dX8_changedBy_76 rfl (lv_at hl 1 rfl) ?_
          refine lv_iconst (v := (1 : Int32)) hx hb dX8_changedBy_77 (by decide) ?_
          refine lv_iload hx hb dX8_changedBy_78 (lv_at hl 2 rfl) ?_
          refine lv_ishl hx hb dX8_changedBy_80 ?_
          refine lv_ior hx hb dX8_changedBy_81 ?_
          refine lv_istore_n (lv' := [(3, .int (x3_3 ||| ((1 : Int32) <<< (x4_3 &&& 31)))), (0, .ref p0), (4, .int x4_3)]) hx hb dX8_changedBy_82 rfl hl (by decide) rfl (fun ls hl => ?_)
          refine lv_iinc (v := (x4_3 + (1 : Int32))) (lv' := [(4, .int (x4_3 + (1 : Int32))), (3, .int (x3_3 ||| ((1 : Int32) <<< (x4_3 &&& 31)))), (0, .ref p0)]) hx hb dX8_changedBy_83 hl (k := 2) rfl rfl (by decide) rfl (fun ls hl => ?_)
          refine lv_goto (tgt := 32) hx hb dX8_changedBy_86 (by decide) ?_
          have j_12 : (1 : Int32).toInt = 1 := by decide
          try have j_13 : (x4_3 + (1 : Int32)).toInt = x4_3.toInt + (1 : Int32).toInt := fb_addI (by omega) (by omega)
          exact ih32 (x3_3 ||| ((1 : Int32) <<< (x4_3 &&& 31))) (x4_3 + (1 : Int32)) H locs (by omega) hW hS ls (lv_sub hl [2, 1, 0] rfl) hR
  have j_14 : (0 : Int32).toInt = 0 := by decide
  exact L32 4000 (0 : Int32) (0 : Int32) H locs (by omega) hW hS ls (lv_sub hl [2, 1, 0] rfl) hR
set_option maxHeartbeats 4000000 in
set_option maxRecDepth 100000 in
theorem c_X8_writes (l : Launch) (G : Gm) (A : Nat → Prop) (Ω : Om) (p0 : Nat) (p0b : Nat) (p0pb : Nat) (p0n_0 : Int32) (p0n_1 : Int32) (p0nd_0 : Fn) (p0nd_1 : Fn) (p0nd_2 : Fn) (p0nd_3 : Fn) (p0nm_0 : Fn) (p0nm_1 : Fn) (p0nm_2 : Fn) (p0nm_3 : Fn) (p0nj_0 : Int32) (p0nj_1 : Fn) (p0nj_2 : Fn) (p0nj_3 : Fn) (p0h_0 : Nat → Sit) (p0h_1 : Int32) (p0h_2 : Int32) (p0v_0 : Fn) (p0v_1 : Fn) (p0v_2 : Fn) (p0v_3 : Fn) (p0b_0 : Blk) (x1 : Int32) (x2 : Int32) (hbo : (p0b = p0 + 4 ∧ p0pb = p0 + 132) ∨ (p0b = p0 + 132 ∧ p0pb = p0 + 4)) (hJ_p0nj : 0 ≤ p0nj_0.toInt ∧ p0nj_0.toInt ≤ 20) (hB_p0b : BlkInv p0b_0) (hx9 : 0 ≤ p0h_1.toInt ∧ p0h_1.toInt < 6) (h_p0 : inMBO G Ω p0 p0b) (h_p0n : inSitO G Ω (p0 + 18) p0n_0 p0n_1) (h_p0nd : inDev G Ω (p0 + 19) p0nd_0 p0nd_1 p0nd_2 p0nd_3) (h_p0nm : inDev G Ω (p0 + 24) p0nm_0 p0nm_1 p0nm_2 p0nm_3) (h_p0nj : inJou G Ω (p0 + 29) p0nj_0 p0nj_1 p0nj_2 p0nj_3) (h_p0h : inHis G Ω (p0 + 33) p0h_0 p0h_1 p0h_2) (h_p0v : inDev G Ω (p0 + 127) p0v_0 p0v_1 p0v_2 p0v_3) (h_p0b : inBlk G Ω p0b p0b_0) : Met l yX8_writes (wz yX8_writes cX8_writes 4 (some .int)) ({ frames := 5, cells := 0, slots := 0, locals := 124 } : Room) (va_Pc [.ref p0, .int x1, .int x2] (oS G A Ω)) (va_Qi (fun (r : Int32) (Ω1 : Om) => r = (f_X8_writes p0n_0 p0n_1 p0nd_0 p0nd_1 p0nd_2 p0nd_3 p0nm_0 p0nm_1 p0nm_2 p0nm_3 p0nj_0 p0nj_1 p0nj_2 p0nj_3 p0h_0 p0h_1 p0h_2 p0v_0 p0v_1 p0v_2 p0v_3 p0b_0 x1 x2).1 ∧ inDev G Ω1 (p0 + 19) ((f_X8_writes p0n_0 p0n_1 p0nd_0 p0nd_1 p0nd_2 p0nd_3 p0nm_0 p0nm_1 p0nm_2 p0nm_3 p0nj_0 p0nj_1 p0nj_2 p0nj_3 p0h_0 p0h_1 p0h_2 p0v_0 p0v_1 p0v_2 p0v_3 p0b_0 x1 x2).2.1) ((f_X8_writes p0n_0 p0n_1 p0nd_0 p0nd_1 p0nd_2 p0nd_3 p0nm_0 p0nm_1 p0nm_2 p0nm_3 p0nj_0 p0nj_1 p0nj_2 p0nj_3 p0h_0 p0h_1 p0h_2 p0v_0 p0v_1 p0v_2 p0v_3 p0b_0 x1 x2).2.2.1) ((f_X8_writes p0n_0 p0n_1 p0nd_0 p0nd_1 p0nd_2 p0nd_3 p0nm_0 p0nm_1 p0nm_2 p0nm_3 p0nj_0 p0nj_1 p0nj_2 p0nj_3 p0h_0 p0h_1 p0h_2 p0v_0 p0v_1 p0v_2 p0v_3 p0b_0 x1 x2).2.2.2.1) p0nd_3 ∧ inDev G Ω1 (p0 + 24) ((f_X8_writes p0n_0 p0n_1 p0nd_0 p0nd_1 p0nd_2 p0nd_3 p0nm_0 p0nm_1 p0nm_2 p0nm_3 p0nj_0 p0nj_1 p0nj_2 p0nj_3 p0h_0 p0h_1 p0h_2 p0v_0 p0v_1 p0v_2 p0v_3 p0b_0 x1 x2).2.2.2.2.1) ((f_X8_writes p0n_0 p0n_1 p0nd_0 p0nd_1 p0nd_2 p0nd_3 p0nm_0 p0nm_1 p0nm_2 p0nm_3 p0nj_0 p0nj_1 p0nj_2 p0nj_3 p0h_0 p0h_1 p0h_2 p0v_0 p0v_1 p0v_2 p0v_3 p0b_0 x1 x2).2.2.2.2.2.1) ((f_X8_writes p0n_0 p0n_1 p0nd_0 p0nd_1 p0nd_2 p0nd_3 p0nm_0 p0nm_1 p0nm_2 p0nm_3 p0nj_0 p0nj_1 p0nj_2 p0nj_3 p0h_0 p0h_1 p0h_2 p0v_0 p0v_1 p0v_2 p0v_3 p0b_0 x1 x2).2.2.2.2.2.2.1) p0nm_3 ∧ inJou G Ω1 (p0 + 29) ((f_X8_writes p0n_0 p0n_1 p0nd_0 p0nd_1 p0nd_2 p0nd_3 p0nm_0 p0nm_1 p0nm_2 p0nm_3 p0nj_0 p0nj_1 p0nj_2 p0nj_3 p0h_0 p0h_1 p0h_2 p0v_0 p0v_1 p0v_2 p0v_3 p0b_0 x1 x2).2.2.2.2.2.2.2.1) ((f_X8_writes p0n_0 p0n_1 p0nd_0 p0nd_1 p0nd_2 p0nd_3 p0nm_0 p0nm_1 p0nm_2 p0nm_3 p0nj_0 p0nj_1 p0nj_2 p0nj_3 p0h_0 p0h_1 p0h_2 p0v_0 p0v_1 p0v_2 p0v_3 p0b_0 x1 x2).2.2.2.2.2.2.2.2.1) ((f_X8_writes p0n_0 p0n_1 p0nd_0 p0nd_1 p0nd_2 p0nd_3 p0nm_0 p0nm_1 p0nm_2 p0nm_3 p0nj_0 p0nj_1 p0nj_2 p0nj_3 p0h_0 p0h_1 p0h_2 p0v_0 p0v_1 p0v_2 p0v_3 p0b_0 x1 x2).2.2.2.2.2.2.2.2.2.1) ((f_X8_writes p0n_0 p0n_1 p0nd_0 p0nd_1 p0nd_2 p0nd_3 p0nm_0 p0nm_1 p0nm_2 p0nm_3 p0nj_0 p0nj_1 p0nj_2 p0nj_3 p0h_0 p0h_1 p0h_2 p0v_0 p0v_1 p0v_2 p0v_3 p0b_0 x1 x2).2.2.2.2.2.2.2.2.2.2.1) ∧ inHis G Ω1 (p0 + 33) ((f_X8_writes p0n_0 p0n_1 p0nd_0 p0nd_1 p0nd_2 p0nd_3 p0nm_0 p0nm_1 p0nm_2 p0nm_3 p0nj_0 p0nj_1 p0nj_2 p0nj_3 p0h_0 p0h_1 p0h_2 p0v_0 p0v_1 p0v_2 p0v_3 p0b_0 x1 x2).2.2.2.2.2.2.2.2.2.2.2.1) ((f_X8_writes p0n_0 p0n_1 p0nd_0 p0nd_1 p0nd_2 p0nd_3 p0nm_0 p0nm_1 p0nm_2 p0nm_3 p0nj_0 p0nj_1 p0nj_2 p0nj_3 p0h_0 p0h_1 p0h_2 p0v_0 p0v_1 p0v_2 p0v_3 p0b_0 x1 x2).2.2.2.2.2.2.2.2.2.2.2.2.1) ((f_X8_writes p0n_0 p0n_1 p0nd_0 p0nd_1 p0nd_2 p0nd_3 p0nm_0 p0nm_1 p0nm_2 p0nm_3 p0nj_0 p0nj_1 p0nj_2 p0nj_3 p0h_0 p0h_1 p0h_2 p0v_0 p0v_1 p0v_2 p0v_3 p0b_0 x1 x2).2.2.2.2.2.2.2.2.2.2.2.2.2.1) ∧ inDev G Ω1 (p0 + 127) ((f_X8_writes p0n_0 p0n_1 p0nd_0 p0nd_1 p0nd_2 p0nd_3 p0nm_0 p0nm_1 p0nm_2 p0nm_3 p0nj_0 p0nj_1 p0nj_2 p0nj_3 p0h_0 p0h_1 p0h_2 p0v_0 p0v_1 p0v_2 p0v_3 p0b_0 x1 x2).2.2.2.2.2.2.2.2.2.2.2.2.2.2.1) ((f_X8_writes p0n_0 p0n_1 p0nd_0 p0nd_1 p0nd_2 p0nd_3 p0nm_0 p0nm_1 p0nm_2 p0nm_3 p0nj_0 p0nj_1 p0nj_2 p0nj_3 p0h_0 p0h_1 p0h_2 p0v_0 p0v_1 p0v_2 p0v_3 p0b_0 x1 x2).2.2.2.2.2.2.2.2.2.2.2.2.2.2.2.1) ((f_X8_writes p0n_0 p0n_1 p0nd_0 p0nd_1 p0nd_2 p0nd_3 p0nm_0 p0nm_1 p0nm_2 p0nm_3 p0nj_0 p0nj_1 p0nj_2 p0nj_3 p0h_0 p0h_1 p0h_2 p0v_0 p0v_1 p0v_2 p0v_3 p0b_0 x1 x2).2.2.2.2.2.2.2.2.2.2.2.2.2.2.2.2.1) ((f_X8_writes p0n_0 p0n_1 p0nd_0 p0nd_1 p0nd_2 p0nd_3 p0nm_0 p0nm_1 p0nm_2 p0nm_3 p0nj_0 p0nj_1 p0nj_2 p0nj_3 p0h_0 p0h_1 p0h_2 p0v_0 p0v_1 p0v_2 p0v_3 p0b_0 x1 x2).2.2.2.2.2.2.2.2.2.2.2.2.2.2.2.2.2) ∧ (∀ q : Nat, (q < (p0 + 19) ∨ (p0 + 19) + 5 ≤ q) → (q < (p0 + 24) ∨ (p0 + 24) + 5 ≤ q) → (q < (p0 + 29) ∨ (p0 + 29) + 4 ≤ q) → (q < (p0 + 33) ∨ (p0 + 33) + 92 ≤ q) → (q < (p0 + 127) ∨ (p0 + 127) + 5 ≤ q) → Ω1 q = Ω q)) (oB G A) A) 0 0 A := by
  refine Met.ofW (cc := cX8_writes) (maxL := 4) (ret := (some .int)) (by decide) rfl ?_
  intro p e s m args below meth c s₁ B hml hv
  obtain ⟨rfl, hW, hK, hN, hZ⟩ := hv
  have hx := B.exec
  have hb := B.bytes
  have hr := B.returns
  have hts : ∀ w ∈ gt, w.before _ s = true := fun w hw => atoms_spec (ws := wz yX8_writes cX8_writes 4 (some .int)) B.pre w (List.mem_cons_of_mem _ hw)
  have hown : s.vm.findClass RX8 = some m.cls := findClass_of_methodNamed B.named
  have hlocks := B.notSynchronized
  have hA : ∀ q, A q → A q := fun _ h => h
  have hS : va_S A s.heap s.heap [] := va_S.rf
  have hS0 := hS
  have hl := lv_entry ([.ref p0, .int x1, .int x2]) (n := 4) (Nat.le_of_ble_eq_true rfl)
  rw [lg_entry_eq]
  generalize (lg_sl ([.ref p0, .int x1, .int x2]) ++ List.replicate (4 - (lg_sl ([.ref p0, .int x1, .int x2])).length) Slot.unset).toArray = ls at hl ⊢
  have hl : lv_has ls 4 [(0, .ref p0), (1, .int x1), (2, .int x2)] := hl
  have hE : ∀ q : Nat, (q < (p0 + 19) ∨ (p0 + 19) + 5 ≤ q) → (q < (p0 + 24) ∨ (p0 + 24) + 5 ≤ q) → (q < (p0 + 29) ∨ (p0 + 29) + 4 ≤ q) → (q < (p0 + 33) ∨ (p0 + 33) + 92 ≤ q) → (q < (p0 + 127) ∨ (p0 + 127) + 5 ≤ q) → Ω q = Ω q := by intros; rfl
  generalize hR : (f_X8_writes p0n_0 p0n_1 p0nd_0 p0nd_1 p0nd_2 p0nd_3 p0nm_0 p0nm_1 p0nm_2 p0nm_3 p0nj_0 p0nj_1 p0nj_2 p0nj_3 p0h_0 p0h_1 p0h_2 p0v_0 p0v_1 p0v_2 p0v_3 p0b_0 x1 x2) = R
  rw [f_X8_writes] at hR
  refine lv_iload_n hx hb dX8_writes_0 rfl (lv_at hl 1 rfl) ?_
  refine lv_bipush (v := (16 : Int32)) hx hb dX8_writes_1 (by decide) ?_
  have j_1 : (16 : Int32).toInt = 16 := by decide
  refine o_SiR (rest := []) (As := [.int x1, .int (16 : Int32)]) (n := 2) hx hb hml hown hts hK hN hZ hW hS hA (c_X8_isWithin l G A Ω x1 (16 : Int32)) ml_X8_61 st_X8_isWithin ini_X8 co_X8_isWithin (by decide +kernel) ⟨Nat.zero_le _, Nat.zero_le _⟩ hl.1 (Nat.le_of_ble_eq_true rfl) rfl rfl dX8_writes_3 (fun r H locs hp hW hS => ?_)
  obtain ⟨rfl, hz_2⟩ := hp
  have j_4 : (0 : Int32).toInt = 0 := by decide
  refine lv_if_eq (tgt := 19) hx hb dX8_writes_6 (by decide) (fun c_3 => ?_) (fun c_3 => ?_)
  · rw [if_pos c_3] at hR
    have i_3 := congrArg Int32.toInt c_3
    refine lv_iconst (v := (-1 : Int32)) hx hb dX8_writes_19 (by decide) ?_
    subst hR
    exact W.iret (v := (-1 : Int32)) hx hb hr (fun t ht hW9 => ⟨⟨(-1 : Int32), Ω, rfl, ⟨rfl, h_p0nd, h_p0nm, h_p0nj, h_p0h, h_p0v, hE⟩, by rw [oB, ht]; exact hW⟩, hS.F ht⟩) hS.2.2 dX8_writes_20
  · rw [if_neg c_3] at hR
    have i_3 := rne c_3
    have b_c_3 := rIW c_3
    refine lv_iload_n hx hb dX8_writes_9 rfl (lv_at hl 2 rfl) ?_
    refine lv_sipush (v := (256 : Int32)) hx hb dX8_writes_10 (by decide) ?_
    have j_5 : (256 : Int32).toInt = 256 := by decide
    refine o_SiR (rest := []) (As := [.int x2, .int (256 : Int32)]) (n := 2) hx hb hml hown hts hK hN hZ hW hS hA (c_X8_isWithin l G A Ω x2 (256 : Int32)) ml_X8_61 st_X8_isWithin ini_X8 co_X8_isWithin (by decide +kernel) ⟨Nat.zero_le _, Nat.zero_le _⟩ hl.1 (Nat.le_of_ble_eq_true rfl) rfl rfl dX8_writes_13 (fun r H locs hp hW hS => ?_)
    obtain ⟨rfl, hz_6⟩ := hp
    refine lv_if_ne (tgt := 21) hx hb dX8_writes_16 (by decide) (fun c_7 => ?_) (fun c_7 => ?_)
    · rw [if_neg c_7] at hR
      have i_7 := rne c_7
      have b_c_7 := rIW c_7
      refine lv_aload_n hx hb dX8_writes_21 rfl (lv_at hl 0 rfl) ?_
      refine o_get hx hb hts hown hK hW (inMBO_o h_p0) rfl ig8 2 (by decide) fl_X8_28 rfl dX8_writes_22 ?_
      refine o_get hx hb hts hown hK hW (inSitO_o h_p0n) rfl ig5 2 (by decide) fl_X8_92 rfl dX8_writes_25 ?_
      refine o_get hx hb hts hown hK hW (inJou_o h_p0nj) rfl ig3 0 (by decide) fl_X8_96 rfl dX8_writes_28 ?_
      refine lv_bipush (v := (20 : Int32)) hx hb dX8_writes_31 (by decide) ?_
      have j_9 : (20 : Int32).toInt = 20 := by decide
      refine lv_icmp_lt (tgt := 39) hx hb dX8_writes_33 (by decide) (fun c_8 => ?_) (fun c_8 => ?_)
      · rw [if_pos c_8] at hR
        have i_8 := rlt c_8
        refine lv_aload_n hx hb dX8_writes_39 rfl (lv_at hl 0 rfl) ?_
        refine o_get hx hb hts hown hK hW (inMBO_o h_p0) rfl ig8 3 (by decide) fl_X8_35 rfl dX8_writes_40 ?_
        refine lv_aload_n hx hb dX8_writes_43 rfl (lv_at hl 0 rfl) ?_
        refine o_get hx hb hts hown hK hW (inMBO_o h_p0) rfl ig8 2 (by decide) fl_X8_28 rfl dX8_writes_44 ?_
        refine o_Vv (rest := []) (As := [.ref (p0 + 18)]) (n := 1) hx hb hml hown hts hK hN hZ hW hS hA (c_X2_remember l G A Ω (p0 + 33) (p0 + 18) p0h_0 p0h_1 p0h_2 p0n_0 p0n_1 p0nd_0 p0nd_1 p0nd_2 p0nd_3 p0nm_0 p0nm_1 p0nm_2 p0nm_3 p0nj_0 p0nj_1 p0nj_2 p0nj_3 (by omega) (by omega) h_p0h h_p0n h_p0nd h_p0nm h_p0nj) (inHis_o h_p0h) rfl (good_V ml_X8_88 im_X2_remember se_X2_remember ini_X2 co_X2_remember) (by decide +kernel) ⟨Nat.zero_le _, Nat.zero_le _⟩ hl.1 (Nat.le_of_ble_eq_true rfl) rfl rfl dX8_writes_47 (fun Ω_10 H locs hp hW hS => ?_)
        obtain ⟨h_p0h, hF_10⟩ := hp
        have h_p0 := h_p0.keep (fun q h1 h2 => hF_10 q (by omega))
        have h_p0n := h_p0n.keep (fun q h1 h2 => hF_10 q (by omega))
        have h_p0nd := h_p0nd.keep (fun q h1 h2 => hF_10 q (by omega))
        have h_p0nm := h_p0nm.keep (fun q h1 h2 => hF_10 q (by omega))
        have h_p0nj := h_p0nj.keep (fun q h1 h2 => hF_10 q (by omega))
        have h_p0v := h_p0v.keep (fun q h1 h2 => hF_10 q (by omega))
        have h_p0b := h_p0b.keep (fun q h1 h2 => hF_10 q (by omega))
        have hE : ∀ q : Nat, (q < (p0 + 19) ∨ (p0 + 19) + 5 ≤ q) → (q < (p0 + 24) ∨ (p0 + 24) + 5 ≤ q) → (q < (p0 + 29) ∨ (p0 + 29) + 4 ≤ q) → (q < (p0 + 33) ∨ (p0 + 33) + 92 ≤ q) → (q < (p0 + 127) ∨ (p0 + 127) + 5 ≤ q) → Ω_10 q = Ω q := fun q g0 g1 g2 g3 g4 => (hF_10 q (by omega)).trans (hE q g0 g1 g2 g3 g4)
        generalize (f_X2_remember p0h_0 p0h_1 p0h_2 p0n_0 p0n_1 p0nd_0 p0nd_1 p0nd_2 p0nd_3 p0nm_0 p0nm_1 p0nm_2 p0nm_3 p0nj_0 p0nj_1 p0nj_2 p0nj_3) = Z_10 at h_p0h hR
        obtain ⟨z10_0, z10_1, z10_2⟩ := Z_10
        dsimp only at h_p0h hR
        rw [f_X8_writes_C50] at hR
        refine lv_aload_n hx hb dX8_writes_50 rfl (lv_at hl 0 rfl) ?_
        refine lv_iload_n hx hb dX8_writes_51 rfl (lv_at hl 1 rfl) ?_
        refine lv_iload_n hx hb dX8_writes_52 rfl (lv_at hl 2 rfl) ?_
        refine o_Vi (rest := []) (As := [.int x1, .int x2]) (n := 2) hx hb hml hown hts hK hN hZ hW hS hA (c_X8_changedBy l G A Ω_10 p0 p0b p0pb p0n_0 p0n_1 p0nd_0 p0nd_1 p0nd_2 p0nd_3 p0v_0 p0v_1 p0v_2 p0v_3 p0b_0 x1 x2 hbo hB_p0b h_p0 h_p0n h_p0nd h_p0v h_p0b) (inMBO_o h_p0) rfl (good_V ml_X8_106 im_X8_changedBy se_X8_changedBy ini_X8 co_X8_changedBy) (by decide +kernel) ⟨Nat.zero_le _, Nat.zero_le _⟩ hl.1 (Nat.le_of_ble_eq_true rfl) rfl rfl dX8_writes_53 (fun r Ω_11 H locs hp hW hS => ?_)
        obtain ⟨rfl, h_p0v, hF_11⟩ := hp
        have h_p0 := h_p0.keep (fun q h1 h2 => hF_11 q (by omega))
        have h_p0n := h_p0n.keep (fun q h1 h2 => hF_11 q (by omega))
        have h_p0nd := h_p0nd.keep (fun q h1 h2 => hF_11 q (by omega))
        have h_p0nm := h_p0nm.keep (fun q h1 h2 => hF_11 q (by omega))
        have h_p0nj := h_p0nj.keep (fun q h1 h2 => hF_11 q (by omega))
        have h_p0h := h_p0h.keep (fun q h1 h2 => hF_11 q (by omega))
        have h_p0b := h_p0b.keep (fun q h1 h2 => hF_11 q (by omega))
        have hE : ∀ q : Nat, (q < (p0 + 19) ∨ (p0 + 19) + 5 ≤ q) → (q < (p0 + 24) ∨ (p0 + 24) + 5 ≤ q) → (q < (p0 + 29) ∨ (p0 + 29) + 4 ≤ q) → (q < (p0 + 33) ∨ (p0 + 33) + 92 ≤ q) → (q < (p0 + 127) ∨ (p0 + 127) + 5 ≤ q) → Ω_11 q = Ω q := fun q g0 g1 g2 g3 g4 => (hF_11 q (by omega)).trans (hE q g0 g1 g2 g3 g4)
        generalize (f_X8_changedBy p0nd_0 p0nd_1 p0nd_2 p0nd_3 p0v_0 p0v_1 p0v_2 p0v_3 p0b_0 x1 x2) = Z_11 at h_p0v hR ⊢
        obtain ⟨z11_0, z11_1, z11_2, z11_3, z11_4⟩ := Z_11
        dsimp only at h_p0v hR ⊢
        rw [f_X8_writes_C56] at hR
        refine lv_istore_n (lv' := [(3, .int z11_0), (0, .ref p0), (1, .int x1), (2, .int x2)]) hx hb dX8_writes_56 rfl hl (by decide) rfl (fun ls hl => ?_)
        refine lv_aload_n hx hb dX8_writes_57 rfl (lv_at hl 1 rfl) ?_
        refine o_get hx hb hts hown hK hW (inMBO_o h_p0) rfl ig8 2 (by decide) fl_X8_28 rfl dX8_writes_58 ?_
        refine lv_aload_n hx hb dX8_writes_61 rfl (lv_at hl 1 rfl) ?_
        refine o_get hx hb hts hown hK hW (inMBO_o h_p0) rfl ig8 7 (by decide) fl_X8_57 rfl dX8_writes_62 ?_
        refine lv_iload_n hx hb dX8_writes_65 rfl (lv_at hl 2 rfl) ?_
        refine lv_iload_n hx hb dX8_writes_66 rfl (lv_at hl 3 rfl) ?_
        refine o_Vv (rest := []) (As := [.ref p0b, .int x1, .int x2]) (n := 3) hx hb hml hown hts hK hN hZ hW hS hA (c_X5_performWrite l G A Ω_11 (p0 + 18) p0b p0n_0 p0n_1 p0nd_0 p0nd_1 p0nd_2 p0nd_3 p0nm_0 p0nm_1 p0nm_2 p0nm_3 p0nj_0 p0nj_1 p0nj_2 p0nj_3 p0b_0 x1 x2 (by omega) (by omega) hB_p0b h_p0n h_p0nd h_p0nm h_p0nj h_p0b) (inSitO_o h_p0n) rfl (good_V ml_X8_110 im_X5_performWrite se_X5_performWrite ini_X5 co_X5_performWrite) (by decide +kernel) ⟨Nat.zero_le _, Nat.zero_le _⟩ hl.1 (Nat.le_of_ble_eq_true rfl) rfl rfl dX8_writes_67 (fun Ω_12 H locs hp hW hS => ?_)
        obtain ⟨h_p0nd, h_p0nm, h_p0nj, hF_12⟩ := hp
        have h_p0 := h_p0.keep (fun q h1 h2 => hF_12 q (by omega) (by omega) (by omega))
        have h_p0n := h_p0n.keep (fun q h1 h2 => hF_12 q (by omega) (by omega) (by omega))
        have h_p0h := h_p0h.keep (fun q h1 h2 => hF_12 q (by omega) (by omega) (by omega))
        have h_p0v := h_p0v.keep (fun q h1 h2 => hF_12 q (by omega) (by omega) (by omega))
        have h_p0b := h_p0b.keep (fun q h1 h2 => hF_12 q (by omega) (by omega) (by omega))
        have hE : ∀ q : Nat, (q < (p0 + 19) ∨ (p0 + 19) + 5 ≤ q) → (q < (p0 + 24) ∨ (p0 + 24) + 5 ≤ q) → (q < (p0 + 29) ∨ (p0 + 29) + 4 ≤ q) → (q < (p0 + 33) ∨ (p0 + 33) + 92 ≤ q) → (q < (p0 + 127) ∨ (p0 + 127) + 5 ≤ q) → Ω_12 q = Ω q := fun q g0 g1 g2 g3 g4 => (hF_12 q (by omega) (by omega) (by omega)).trans (hE q g0 g1 g2 g3 g4)
        generalize (f_X5_performWrite p0nd_0 p0nd_1 p0nd_2 p0nd_3 p0nm_0 p0nm_1 p0nm_2 p0nm_3 p0nj_0 p0nj_1 p0nj_2 p0nj_3 p0b_0 x1 x2) = Z_12 at h_p0nd h_p0nm h_p0nj hR
        obtain ⟨z12_0, z12_1, z12_2, z12_3, z12_4, z12_5, z12_6, z12_7, z12_8, z12_9⟩ := Z_12
        dsimp only at h_p0nd h_p0nm h_p0nj hR
        rw [f_X8_writes_C70] at hR
        refine lv_iload_n hx hb dX8_writes_70 rfl (lv_at hl 0 rfl) ?_
        subst hR
        exact W.iret (v := z11_0) hx hb hr (fun t ht hW9 => ⟨⟨z11_0, Ω_12, rfl, ⟨rfl, h_p0nd, h_p0nm, h_p0nj, h_p0h, h_p0v, hE⟩, by rw [oB, ht]; exact hW⟩, hS.F ht⟩) hS.2.2 dX8_writes_71
      · rw [if_neg c_8] at hR
        have i_8 := rnlt c_8
        refine lv_bipush (v := (-3 : Int32)) hx hb dX8_writes_36 (by decide) ?_
        subst hR
        exact W.iret (v := (-3 : Int32)) hx hb hr (fun t ht hW9 => ⟨⟨(-3 : Int32), Ω, rfl, ⟨rfl, h_p0nd, h_p0nm, h_p0nj, h_p0h, h_p0v, hE⟩, by rw [oB, ht]; exact hW⟩, hS.F ht⟩) hS.2.2 dX8_writes_38
    · rw [if_pos c_7] at hR
      have i_7 := congrArg Int32.toInt c_7
      refine lv_iconst (v := (-1 : Int32)) hx hb dX8_writes_19 (by decide) ?_
      subst hR
      exact W.iret (v := (-1 : Int32)) hx hb hr (fun t ht hW9 => ⟨⟨(-1 : Int32), Ω, rfl, ⟨rfl, h_p0nd, h_p0nm, h_p0nj, h_p0h, h_p0v, hE⟩, by rw [oB, ht]; exact hW⟩, hS.F ht⟩) hS.2.2 dX8_writes_20
set_option maxHeartbeats 4000000 in
set_option maxRecDepth 100000 in
theorem c_X8_sets (l : Launch) (G : Gm) (A : Nat → Prop) (Ω : Om) (p0 : Nat) (p0b : Nat) (p0pb : Nat) (p0n_0 : Int32) (p0n_1 : Int32) (p0nd_0 : Fn) (p0nd_1 : Fn) (p0nd_2 : Fn) (p0nd_3 : Fn) (p0nm_0 : Fn) (p0nm_1 : Fn) (p0nm_2 : Fn) (p0nm_3 : Fn) (p0nj_0 : Int32) (p0nj_1 : Fn) (p0nj_2 : Fn) (p0nj_3 : Fn) (p0h_0 : Nat → Sit) (p0h_1 : Int32) (p0h_2 : Int32) (p0b_0 : Blk) (x1 : Int32) (x2 : Int32) (hbo : (p0b = p0 + 4 ∧ p0pb = p0 + 132) ∨ (p0b = p0 + 132 ∧ p0pb = p0 + 4)) (hB_p0b : BlkInv p0b_0) (hx9 : 0 ≤ p0h_1.toInt ∧ p0h_1.toInt < 6) (h_p0 : inMBO G Ω p0 p0b) (h_p0n : inSitO G Ω (p0 + 18) p0n_0 p0n_1) (h_p0nd : inDev G Ω (p0 + 19) p0nd_0 p0nd_1 p0nd_2 p0nd_3) (h_p0nm : inDev G Ω (p0 + 24) p0nm_0 p0nm_1 p0nm_2 p0nm_3) (h_p0nj : inJou G Ω (p0 + 29) p0nj_0 p0nj_1 p0nj_2 p0nj_3) (h_p0h : inHis G Ω (p0 + 33) p0h_0 p0h_1 p0h_2) (h_p0b : inBlk G Ω p0b p0b_0) : Met l yX8_sets (wz yX8_sets cX8_sets 4 (some .int)) ({ frames := 4, cells := 0, slots := 0, locals := 124 } : Room) (va_Pc [.ref p0, .int x1, .int x2] (oS G A Ω)) (va_Qi (fun (r : Int32) (Ω1 : Om) => r = (f_X8_sets p0n_0 p0n_1 p0nd_0 p0nd_1 p0nd_2 p0nd_3 p0nm_0 p0nm_1 p0nm_2 p0nm_3 p0nj_0 p0nj_1 p0nj_2 p0nj_3 p0h_0 p0h_1 p0h_2 p0b_0 x1 x2).1 ∧ inDev G Ω1 (p0 + 19) ((f_X8_sets p0n_0 p0n_1 p0nd_0 p0nd_1 p0nd_2 p0nd_3 p0nm_0 p0nm_1 p0nm_2 p0nm_3 p0nj_0 p0nj_1 p0nj_2 p0nj_3 p0h_0 p0h_1 p0h_2 p0b_0 x1 x2).2.1) p0nd_1 p0nd_2 p0nd_3 ∧ inHis G Ω1 (p0 + 33) ((f_X8_sets p0n_0 p0n_1 p0nd_0 p0nd_1 p0nd_2 p0nd_3 p0nm_0 p0nm_1 p0nm_2 p0nm_3 p0nj_0 p0nj_1 p0nj_2 p0nj_3 p0h_0 p0h_1 p0h_2 p0b_0 x1 x2).2.2.1) ((f_X8_sets p0n_0 p0n_1 p0nd_0 p0nd_1 p0nd_2 p0nd_3 p0nm_0 p0nm_1 p0nm_2 p0nm_3 p0nj_0 p0nj_1 p0nj_2 p0nj_3 p0h_0 p0h_1 p0h_2 p0b_0 x1 x2).2.2.2.1) ((f_X8_sets p0n_0 p0n_1 p0nd_0 p0nd_1 p0nd_2 p0nd_3 p0nm_0 p0nm_1 p0nm_2 p0nm_3 p0nj_0 p0nj_1 p0nj_2 p0nj_3 p0h_0 p0h_1 p0h_2 p0b_0 x1 x2).2.2.2.2) ∧ (∀ q : Nat, (q < (p0 + 19) ∨ (p0 + 19) + 5 ≤ q) → (q < (p0 + 33) ∨ (p0 + 33) + 92 ≤ q) → Ω1 q = Ω q)) (oB G A) A) 0 0 A := by
  refine Met.ofW (cc := cX8_sets) (maxL := 4) (ret := (some .int)) (by decide) rfl ?_
  intro p e s m args below meth c s₁ B hml hv
  obtain ⟨rfl, hW, hK, hN, hZ⟩ := hv
  have hx := B.exec
  have hb := B.bytes
  have hr := B.returns
  have hts : ∀ w ∈ gt, w.before _ s = true := fun w hw => atoms_spec (ws := wz yX8_sets cX8_sets 4 (some .int)) B.pre w (List.mem_cons_of_mem _ hw)
  have hown : s.vm.findClass RX8 = some m.cls := findClass_of_methodNamed B.named
  have hlocks := B.notSynchronized
  have hA : ∀ q, A q → A q := fun _ h => h
  have hS : va_S A s.heap s.heap [] := va_S.rf
  have hS0 := hS
  have hl := lv_entry ([.ref p0, .int x1, .int x2]) (n := 4) (Nat.le_of_ble_eq_true rfl)
  rw [lg_entry_eq]
  generalize (lg_sl ([.ref p0, .int x1, .int x2]) ++ List.replicate (4 - (lg_sl ([.ref p0, .int x1, .int x2])).length) Slot.unset).toArray = ls at hl ⊢
  have hl : lv_has ls 4 [(0, .ref p0), (1, .int x1), (2, .int x2)] := hl
  have hE : ∀ q : Nat, (q < (p0 + 19) ∨ (p0 + 19) + 5 ≤ q) → (q < (p0 + 33) ∨ (p0 + 33) + 92 ≤ q) → Ω q = Ω q := by intros; rfl
  generalize hR : (f_X8_sets p0n_0 p0n_1 p0nd_0 p0nd_1 p0nd_2 p0nd_3 p0nm_0 p0nm_1 p0nm_2 p0nm_3 p0nj_0 p0nj_1 p0nj_2 p0nj_3 p0h_0 p0h_1 p0h_2 p0b_0 x1 x2) = R
  rw [f_X8_sets] at hR
  refine lv_aload_n hx hb dX8_sets_0 rfl (lv_at hl 0 rfl) ?_
  refine o_get hx hb hts hown hK hW (inMBO_o h_p0) rfl ig8 7 (by decide) fl_X8_57 rfl dX8_sets_1 ?_
  refine lv_iload_n hx hb dX8_sets_4 rfl (lv_at hl 1 rfl) ?_
  refine lv_iload_n hx hb dX8_sets_5 rfl (lv_at hl 2 rfl) ?_
  refine o_ViR (rest := []) (As := [.int x1, .int x2]) (n := 2) hx hb hml hown hts hK hN hZ hW hS hA (c_X0_canHold l G A Ω p0b p0b_0 x1 x2 hB_p0b h_p0b) (inBlk_o h_p0b) rfl (good_V ml_X8_114 im_X0_canHold se_X0_canHold ini_X0 co_X0_canHold) (by decide +kernel) ⟨Nat.zero_le _, Nat.zero_le _⟩ hl.1 (Nat.le_of_ble_eq_true rfl) rfl rfl dX8_sets_6 (fun r H locs hp hW hS => ?_)
  obtain ⟨rfl, hz_1⟩ := hp
  have j_3 : (0 : Int32).toInt = 0 := by decide
  refine lv_if_ne (tgt := 14) hx hb dX8_sets_9 (by decide) (fun c_2 => ?_) (fun c_2 => ?_)
  · rw [if_neg c_2] at hR
    have i_2 := rne c_2
    have b_c_2 := rCH c_2
    have bb_c_2 := BI_flds hB_p0b
    refine lv_aload_n hx hb dX8_sets_14 rfl (lv_at hl 0 rfl) ?_
    refine o_get hx hb hts hown hK hW (inMBO_o h_p0) rfl ig8 2 (by decide) fl_X8_28 rfl dX8_sets_15 ?_
    refine o_get hx hb hts hown hK hW (inSitO_o h_p0n) rfl ig5 0 (by decide) fl_X8_117 rfl dX8_sets_18 ?_
    refine lv_aload_n hx hb dX8_sets_21 rfl (lv_at hl 0 rfl) ?_
    refine o_get hx hb hts hown hK hW (inMBO_o h_p0) rfl ig8 7 (by decide) fl_X8_57 rfl dX8_sets_22 ?_
    refine lv_iload_n hx hb dX8_sets_25 rfl (lv_at hl 1 rfl) ?_
    refine o_ViR (rest := []) (As := [.ref p0b, .int x1]) (n := 2) hx hb hml hown hts hK hN hZ hW hS hA (c_X1_valueOf l G A Ω (p0 + 19) p0b p0nd_0 p0nd_1 p0nd_2 p0nd_3 p0b_0 x1 hB_p0b (by omega) h_p0nd h_p0b) (inDev_o h_p0nd) rfl (good_V ml_X8_120 im_X1_valueOf se_X1_valueOf ini_X1 co_X1_valueOf) (by decide +kernel) ⟨Nat.zero_le _, Nat.zero_le _⟩ hl.1 (Nat.le_of_ble_eq_true rfl) rfl rfl dX8_sets_26 (fun r H locs hp hW hS => ?_)
    subst hp
    refine lv_istore_n (lv' := [(3, .int (f_X1_valueOf p0nd_0 p0b_0 x1)), (0, .ref p0), (1, .int x1), (2, .int x2)]) hx hb dX8_sets_29 rfl hl (by decide) rfl (fun ls hl => ?_)
    refine lv_iload_n hx hb dX8_sets_30 rfl (lv_at hl 0 rfl) ?_
    refine lv_iload_n hx hb dX8_sets_31 rfl (lv_at hl 3 rfl) ?_
    refine lv_icmp_ne (tgt := 38) hx hb dX8_sets_32 (by decide) (fun c_5 => ?_) (fun c_5 => ?_)
    · rw [if_neg c_5] at hR
      have i_5 := rne c_5
      refine lv_aload_n hx hb dX8_sets_38 rfl (lv_at hl 1 rfl) ?_
      refine o_get hx hb hts hown hK hW (inMBO_o h_p0) rfl ig8 3 (by decide) fl_X8_35 rfl dX8_sets_39 ?_
      refine lv_aload_n hx hb dX8_sets_42 rfl (lv_at hl 1 rfl) ?_
      refine o_get hx hb hts hown hK hW (inMBO_o h_p0) rfl ig8 2 (by decide) fl_X8_28 rfl dX8_sets_43 ?_
      refine o_Vv (rest := []) (As := [.ref (p0 + 18)]) (n := 1) hx hb hml hown hts hK hN hZ hW hS hA (c_X2_remember l G A Ω (p0 + 33) (p0 + 18) p0h_0 p0h_1 p0h_2 p0n_0 p0n_1 p0nd_0 p0nd_1 p0nd_2 p0nd_3 p0nm_0 p0nm_1 p0nm_2 p0nm_3 p0nj_0 p0nj_1 p0nj_2 p0nj_3 (by omega) (by omega) h_p0h h_p0n h_p0nd h_p0nm h_p0nj) (inHis_o h_p0h) rfl (good_V ml_X8_88 im_X2_remember se_X2_remember ini_X2 co_X2_remember) (by decide +kernel) ⟨Nat.zero_le _, Nat.zero_le _⟩ hl.1 (Nat.le_of_ble_eq_true rfl) rfl rfl dX8_sets_46 (fun Ω_6 H locs hp hW hS => ?_)
      obtain ⟨h_p0h, hF_6⟩ := hp
      have h_p0 := h_p0.keep (fun q h1 h2 => hF_6 q (by omega))
      have h_p0n := h_p0n.keep (fun q h1 h2 => hF_6 q (by omega))
      have h_p0nd := h_p0nd.keep (fun q h1 h2 => hF_6 q (by omega))
      have h_p0nm := h_p0nm.keep (fun q h1 h2 => hF_6 q (by omega))
      have h_p0nj := h_p0nj.keep (fun q h1 h2 => hF_6 q (by omega))
      have h_p0b := h_p0b.keep (fun q h1 h2 => hF_6 q (by omega))
      have hE : ∀ q : Nat, (q < (p0 + 19) ∨ (p0 + 19) + 5 ≤ q) → (q < (p0 + 33) ∨ (p0 + 33) + 92 ≤ q) → Ω_6 q = Ω q := fun q g0 g1 => (hF_6 q (by omega)).trans (hE q g0 g1)
      generalize (f_X2_remember p0h_0 p0h_1 p0h_2 p0n_0 p0n_1 p0nd_0 p0nd_1 p0nd_2 p0nd_3 p0nm_0 p0nm_1 p0nm_2 p0nm_3 p0nj_0 p0nj_1 p0nj_2 p0nj_3) = Z_6 at h_p0h hR
      obtain ⟨z6_0, z6_1, z6_2⟩ := Z_6
      dsimp only at h_p0h hR
      rw [f_X8_sets_C49] at hR
      refine lv_aload_n hx hb dX8_sets_49 rfl (lv_at hl 1 rfl) ?_
      refine o_get hx hb hts hown hK hW (inMBO_o h_p0) rfl ig8 2 (by decide) fl_X8_28 rfl dX8_sets_50 ?_
      refine o_get hx hb hts hown hK hW (inSitO_o h_p0n) rfl ig5 0 (by decide) fl_X8_117 rfl dX8_sets_53 ?_
      refine lv_aload_n hx hb dX8_sets_56 rfl (lv_at hl 1 rfl) ?_
      refine o_get hx hb hts hown hK hW (inMBO_o h_p0) rfl ig8 7 (by decide) fl_X8_57 rfl dX8_sets_57 ?_
      refine lv_iload_n hx hb dX8_sets_60 rfl (lv_at hl 2 rfl) ?_
      refine lv_iload_n hx hb dX8_sets_61 rfl (lv_at hl 3 rfl) ?_
      refine o_Vv (rest := []) (As := [.ref p0b, .int x1, .int x2]) (n := 3) hx hb hml hown hts hK hN hZ hW hS hA (c_X1_putValue l G A Ω_6 (p0 + 19) p0b p0nd_0 p0nd_1 p0nd_2 p0nd_3 p0b_0 x1 x2 (by omega) hB_p0b (by omega) h_p0nd h_p0b) (inDev_o h_p0nd) rfl (good_V ml_X8_123 im_X1_putValue se_X1_putValue ini_X1 co_X1_putValue) (by decide +kernel) ⟨Nat.zero_le _, Nat.zero_le _⟩ hl.1 (Nat.le_of_ble_eq_true rfl) rfl rfl dX8_sets_62 (fun Ω_7 H locs hp hW hS => ?_)
      obtain ⟨h_p0nd, hF_7⟩ := hp
      have h_p0 := h_p0.keep (fun q h1 h2 => hF_7 q (by omega))
      have h_p0n := h_p0n.keep (fun q h1 h2 => hF_7 q (by omega))
      have h_p0nm := h_p0nm.keep (fun q h1 h2 => hF_7 q (by omega))
      have h_p0nj := h_p0nj.keep (fun q h1 h2 => hF_7 q (by omega))
      have h_p0h := h_p0h.keep (fun q h1 h2 => hF_7 q (by omega))
      have h_p0b := h_p0b.keep (fun q h1 h2 => hF_7 q (by omega))
      have hE : ∀ q : Nat, (q < (p0 + 19) ∨ (p0 + 19) + 5 ≤ q) → (q < (p0 + 33) ∨ (p0 + 33) + 92 ≤ q) → Ω_7 q = Ω q := fun q g0 g1 => (hF_7 q (by omega)).trans (hE q g0 g1)
      refine lv_iload_n hx hb dX8_sets_65 rfl (lv_at hl 0 rfl) ?_
      subst hR
      exact W.iret (v := (f_X1_valueOf p0nd_0 p0b_0 x1)) hx hb hr (fun t ht hW9 => ⟨⟨(f_X1_valueOf p0nd_0 p0b_0 x1), Ω_7, rfl, ⟨rfl, h_p0nd, h_p0h, hE⟩, by rw [oB, ht]; exact hW⟩, hS.F ht⟩) hS.2.2 dX8_sets_66
    · rw [if_pos c_5] at hR
      have i_5 := congrArg Int32.toInt c_5
      refine lv_bipush (v := (-2 : Int32)) hx hb dX8_sets_35 (by decide) ?_
      subst hR
      exact W.iret (v := (-2 : Int32)) hx hb hr (fun t ht hW9 => ⟨⟨(-2 : Int32), Ω, rfl, ⟨rfl, h_p0nd, h_p0h, hE⟩, by rw [oB, ht]; exact hW⟩, hS.F ht⟩) hS.2.2 dX8_sets_37
  · rw [if_pos c_2] at hR
    have i_2 := congrArg Int32.toInt c_2
    refine lv_iconst (v := (-1 : Int32)) hx hb dX8_sets_12 (by decide) ?_
    subst hR
    exact W.iret (v := (-1 : Int32)) hx hb hr (fun t ht hW9 => ⟨⟨(-1 : Int32), Ω, rfl, ⟨rfl, h_p0nd, h_p0h, hE⟩, by rw [oB, ht]; exact hW⟩, hS.F ht⟩) hS.2.2 dX8_sets_13
set_option maxHeartbeats 4000000 in
set_option maxRecDepth 100000 in
theorem c_X8_breaks (l : Launch) (G : Gm) (A : Nat → Prop) (Ω : Om) (p0 : Nat) (p0b : Nat) (p0pb : Nat) (p0n_0 : Int32) (p0n_1 : Int32) (p0nd_0 : Fn) (p0nd_1 : Fn) (p0nd_2 : Fn) (p0nd_3 : Fn) (p0nm_0 : Fn) (p0nm_1 : Fn) (p0nm_2 : Fn) (p0nm_3 : Fn) (p0nj_0 : Int32) (p0nj_1 : Fn) (p0nj_2 : Fn) (p0nj_3 : Fn) (p0h_0 : Nat → Sit) (p0h_1 : Int32) (p0h_2 : Int32) (p0b_0 : Blk) (x1 : Int32) (x2 : Int32) (hbo : (p0b = p0 + 4 ∧ p0pb = p0 + 132) ∨ (p0b = p0 + 132 ∧ p0pb = p0 + 4)) (hB_p0b : BlkInv p0b_0) (hx9 : 0 ≤ p0h_1.toInt ∧ p0h_1.toInt < 6) (h_p0 : inMBO G Ω p0 p0b) (h_p0n : inSitO G Ω (p0 + 18) p0n_0 p0n_1) (h_p0nd : inDev G Ω (p0 + 19) p0nd_0 p0nd_1 p0nd_2 p0nd_3) (h_p0nm : inDev G Ω (p0 + 24) p0nm_0 p0nm_1 p0nm_2 p0nm_3) (h_p0nj : inJou G Ω (p0 + 29) p0nj_0 p0nj_1 p0nj_2 p0nj_3) (h_p0h : inHis G Ω (p0 + 33) p0h_0 p0h_1 p0h_2) (h_p0b : inBlk G Ω p0b p0b_0) : Met l yX8_breaks (wz yX8_breaks cX8_breaks 4 (some .int)) ({ frames := 4, cells := 0, slots := 0, locals := 124 } : Room) (va_Pc [.ref p0, .int x1, .int x2] (oS G A Ω)) (va_Qi (fun (r : Int32) (Ω1 : Om) => r = (f_X8_breaks p0n_0 p0n_1 p0nd_0 p0nd_1 p0nd_2 p0nd_3 p0nm_0 p0nm_1 p0nm_2 p0nm_3 p0nj_0 p0nj_1 p0nj_2 p0nj_3 p0h_0 p0h_1 p0h_2 p0b_0 x1 x2).1 ∧ inDev G Ω1 (p0 + 19) p0nd_0 p0nd_1 p0nd_2 ((f_X8_breaks p0n_0 p0n_1 p0nd_0 p0nd_1 p0nd_2 p0nd_3 p0nm_0 p0nm_1 p0nm_2 p0nm_3 p0nj_0 p0nj_1 p0nj_2 p0nj_3 p0h_0 p0h_1 p0h_2 p0b_0 x1 x2).2.1) ∧ inHis G Ω1 (p0 + 33) ((f_X8_breaks p0n_0 p0n_1 p0nd_0 p0nd_1 p0nd_2 p0nd_3 p0nm_0 p0nm_1 p0nm_2 p0nm_3 p0nj_0 p0nj_1 p0nj_2 p0nj_3 p0h_0 p0h_1 p0h_2 p0b_0 x1 x2).2.2.1) ((f_X8_breaks p0n_0 p0n_1 p0nd_0 p0nd_1 p0nd_2 p0nd_3 p0nm_0 p0nm_1 p0nm_2 p0nm_3 p0nj_0 p0nj_1 p0nj_2 p0nj_3 p0h_0 p0h_1 p0h_2 p0b_0 x1 x2).2.2.2.1) ((f_X8_breaks p0n_0 p0n_1 p0nd_0 p0nd_1 p0nd_2 p0nd_3 p0nm_0 p0nm_1 p0nm_2 p0nm_3 p0nj_0 p0nj_1 p0nj_2 p0nj_3 p0h_0 p0h_1 p0h_2 p0b_0 x1 x2).2.2.2.2) ∧ (∀ q : Nat, (q < (p0 + 19) ∨ (p0 + 19) + 5 ≤ q) → (q < (p0 + 33) ∨ (p0 + 33) + 92 ≤ q) → Ω1 q = Ω q)) (oB G A) A) 0 0 A := by
  refine Met.ofW (cc := cX8_breaks) (maxL := 4) (ret := (some .int)) (by decide) rfl ?_
  intro p e s m args below meth c s₁ B hml hv
  obtain ⟨rfl, hW, hK, hN, hZ⟩ := hv
  have hx := B.exec
  have hb := B.bytes
  have hr := B.returns
  have hts : ∀ w ∈ gt, w.before _ s = true := fun w hw => atoms_spec (ws := wz yX8_breaks cX8_breaks 4 (some .int)) B.pre w (List.mem_cons_of_mem _ hw)
  have hown : s.vm.findClass RX8 = some m.cls := findClass_of_methodNamed B.named
  have hlocks := B.notSynchronized
  have hA : ∀ q, A q → A q := fun _ h => h
  have hS : va_S A s.heap s.heap [] := va_S.rf
  have hS0 := hS
  have hl := lv_entry ([.ref p0, .int x1, .int x2]) (n := 4) (Nat.le_of_ble_eq_true rfl)
  rw [lg_entry_eq]
  generalize (lg_sl ([.ref p0, .int x1, .int x2]) ++ List.replicate (4 - (lg_sl ([.ref p0, .int x1, .int x2])).length) Slot.unset).toArray = ls at hl ⊢
  have hl : lv_has ls 4 [(0, .ref p0), (1, .int x1), (2, .int x2)] := hl
  have hE : ∀ q : Nat, (q < (p0 + 19) ∨ (p0 + 19) + 5 ≤ q) → (q < (p0 + 33) ∨ (p0 + 33) + 92 ≤ q) → Ω q = Ω q := by intros; rfl
  generalize hR : (f_X8_breaks p0n_0 p0n_1 p0nd_0 p0nd_1 p0nd_2 p0nd_3 p0nm_0 p0nm_1 p0nm_2 p0nm_3 p0nj_0 p0nj_1 p0nj_2 p0nj_3 p0h_0 p0h_1 p0h_2 p0b_0 x1 x2) = R
  rw [f_X8_breaks] at hR
  refine lv_iload_n hx hb dX8_breaks_0 rfl (lv_at hl 1 rfl) ?_
  refine lv_aload_n hx hb dX8_breaks_1 rfl (lv_at hl 0 rfl) ?_
  refine o_get hx hb hts hown hK hW (inMBO_o h_p0) rfl ig8 7 (by decide) fl_X8_57 rfl dX8_breaks_2 ?_
  refine o_get hx hb hts hown hK hW (inBlk_o h_p0b) rfl ig0 1 (by decide) fl_X8_126 rfl dX8_breaks_5 ?_
  try have j_1 : 0 ≤ (p0b_0 0 1).toInt ∧ (p0b_0 0 1).toInt ≤ 12 := BI_flds (by assumption)
  refine o_SiR (rest := []) (As := [.int x1, .int (p0b_0 0 1)]) (n := 2) hx hb hml hown hts hK hN hZ hW hS hA (c_X8_isWithin l G A Ω x1 (p0b_0 0 1)) ml_X8_61 st_X8_isWithin ini_X8 co_X8_isWithin (by decide +kernel) ⟨Nat.zero_le _, Nat.zero_le _⟩ hl.1 (Nat.le_of_ble_eq_true rfl) rfl rfl dX8_breaks_8 (fun r H locs hp hW hS => ?_)
  obtain ⟨rfl, hz_2⟩ := hp
  have j_4 : (0 : Int32).toInt = 0 := by decide
  refine lv_if_eq (tgt := 23) hx hb dX8_breaks_11 (by decide) (fun c_3 => ?_) (fun c_3 => ?_)
  · rw [if_pos c_3] at hR
    have i_3 := congrArg Int32.toInt c_3
    refine lv_iconst (v := (-1 : Int32)) hx hb dX8_breaks_23 (by decide) ?_
    subst hR
    exact W.iret (v := (-1 : Int32)) hx hb hr (fun t ht hW9 => ⟨⟨(-1 : Int32), Ω, rfl, ⟨rfl, h_p0nd, h_p0h, hE⟩, by rw [oB, ht]; exact hW⟩, hS.F ht⟩) hS.2.2 dX8_breaks_24
  · rw [if_neg c_3] at hR
    have i_3 := rne c_3
    have b_c_3 := rIW c_3
    refine lv_iload_n hx hb dX8_breaks_14 rfl (lv_at hl 2 rfl) ?_
    refine lv_bipush (v := (8 : Int32)) hx hb dX8_breaks_15 (by decide) ?_
    have j_5 : (8 : Int32).toInt = 8 := by decide
    refine o_SiR (rest := []) (As := [.int x2, .int (8 : Int32)]) (n := 2) hx hb hml hown hts hK hN hZ hW hS hA (c_X8_isWithin l G A Ω x2 (8 : Int32)) ml_X8_61 st_X8_isWithin ini_X8 co_X8_isWithin (by decide +kernel) ⟨Nat.zero_le _, Nat.zero_le _⟩ hl.1 (Nat.le_of_ble_eq_true rfl) rfl rfl dX8_breaks_17 (fun r H locs hp hW hS => ?_)
    obtain ⟨rfl, hz_6⟩ := hp
    refine lv_if_ne (tgt := 25) hx hb dX8_breaks_20 (by decide) (fun c_7 => ?_) (fun c_7 => ?_)
    · rw [if_neg c_7] at hR
      have i_7 := rne c_7
      have b_c_7 := rIW c_7
      refine lv_aload_n hx hb dX8_breaks_25 rfl (lv_at hl 0 rfl) ?_
      refine o_get hx hb hts hown hK hW (inMBO_o h_p0) rfl ig8 2 (by decide) fl_X8_28 rfl dX8_breaks_26 ?_
      refine o_get hx hb hts hown hK hW (inSitO_o h_p0n) rfl ig5 0 (by decide) fl_X8_117 rfl dX8_breaks_29 ?_
      refine o_get hx hb hts hown hK hW (inDev_o h_p0nd) rfl ig1 3 (by decide) fl_X8_129 rfl dX8_breaks_32 ?_
      refine lv_iload_n hx hb dX8_breaks_35 rfl (lv_at hl 1 rfl) ?_
      refine o_iald hx hb hK hW (inDev_a3 h_p0nd) (vp_in_iff.mpr ⟨by omega, by omega⟩) dX8_breaks_36 ?_
      refine lv_istore_n (lv' := [(3, .int (p0nd_3 x1.toNatClampNeg)), (0, .ref p0), (1, .int x1), (2, .int x2)]) hx hb dX8_breaks_37 rfl hl (by decide) rfl (fun ls hl => ?_)
      refine lv_iload_n hx hb dX8_breaks_38 rfl (lv_at hl 0 rfl) ?_
      refine lv_iload_n hx hb dX8_breaks_39 rfl (lv_at hl 3 rfl) ?_
      refine lv_icmp_ne (tgt := 46) hx hb dX8_breaks_40 (by decide) (fun c_8 => ?_) (fun c_8 => ?_)
      · rw [if_neg c_8] at hR
        have i_8 := rne c_8
        refine lv_aload_n hx hb dX8_breaks_46 rfl (lv_at hl 1 rfl) ?_
        refine o_get hx hb hts hown hK hW (inMBO_o h_p0) rfl ig8 3 (by decide) fl_X8_35 rfl dX8_breaks_47 ?_
        refine lv_aload_n hx hb dX8_breaks_50 rfl (lv_at hl 1 rfl) ?_
        refine o_get hx hb hts hown hK hW (inMBO_o h_p0) rfl ig8 2 (by decide) fl_X8_28 rfl dX8_breaks_51 ?_
        refine o_Vv (rest := []) (As := [.ref (p0 + 18)]) (n := 1) hx hb hml hown hts hK hN hZ hW hS hA (c_X2_remember l G A Ω (p0 + 33) (p0 + 18) p0h_0 p0h_1 p0h_2 p0n_0 p0n_1 p0nd_0 p0nd_1 p0nd_2 p0nd_3 p0nm_0 p0nm_1 p0nm_2 p0nm_3 p0nj_0 p0nj_1 p0nj_2 p0nj_3 (by omega) (by omega) h_p0h h_p0n h_p0nd h_p0nm h_p0nj) (inHis_o h_p0h) rfl (good_V ml_X8_88 im_X2_remember se_X2_remember ini_X2 co_X2_remember) (by decide +kernel) ⟨Nat.zero_le _, Nat.zero_le _⟩ hl.1 (Nat.le_of_ble_eq_true rfl) rfl rfl dX8_breaks_54 (fun Ω_9 H locs hp hW hS => ?_)
        obtain ⟨h_p0h, hF_9⟩ := hp
        have h_p0 := h_p0.keep (fun q h1 h2 => hF_9 q (by omega))
        have h_p0n := h_p0n.keep (fun q h1 h2 => hF_9 q (by omega))
        have h_p0nd := h_p0nd.keep (fun q h1 h2 => hF_9 q (by omega))
        have h_p0nm := h_p0nm.keep (fun q h1 h2 => hF_9 q (by omega))
        have h_p0nj := h_p0nj.keep (fun q h1 h2 => hF_9 q (by omega))
        have h_p0b := h_p0b.keep (fun q h1 h2 => hF_9 q (by omega))
        have hE : ∀ q : Nat, (q < (p0 + 19) ∨ (p0 + 19) + 5 ≤ q) → (q < (p0 + 33) ∨ (p0 + 33) + 92 ≤ q) → Ω_9 q = Ω q := fun q g0 g1 => (hF_9 q (by omega)).trans (hE q g0 g1)
        generalize (f_X2_remember p0h_0 p0h_1 p0h_2 p0n_0 p0n_1 p0nd_0 p0nd_1 p0nd_2 p0nd_3 p0nm_0 p0nm_1 p0nm_2 p0nm_3 p0nj_0 p0nj_1 p0nj_2 p0nj_3) = Z_9 at h_p0h hR
        obtain ⟨z9_0, z9_1, z9_2⟩ := Z_9
        dsimp only at h_p0h hR
        rw [f_X8_breaks_C57] at hR
        refine lv_aload_n hx hb dX8_breaks_57 rfl (lv_at hl 1 rfl) ?_
        refine o_get hx hb hts hown hK hW (inMBO_o h_p0) rfl ig8 2 (by decide) fl_X8_28 rfl dX8_breaks_58 ?_
        refine o_get hx hb hts hown hK hW (inSitO_o h_p0n) rfl ig5 0 (by decide) fl_X8_117 rfl dX8_breaks_61 ?_
        refine o_get hx hb hts hown hK hW (inDev_o h_p0nd) rfl ig1 3 (by decide) fl_X8_129 rfl dX8_breaks_64 ?_
        refine lv_iload_n hx hb dX8_breaks_67 rfl (lv_at hl 2 rfl) ?_
        refine lv_iload_n hx hb dX8_breaks_68 rfl (lv_at hl 3 rfl) ?_
        refine wDev_3 hx hb hK hW hS hA h_p0nd (vp_in_iff.mpr ⟨by omega, by omega⟩) dX8_breaks_69 (fun Ω_10 H locs h_p0nd hF_10 hW hS => ?_)
        have h_p0 := h_p0.keep (fun q h1 h2 => hF_10 q (by omega))
        have h_p0n := h_p0n.keep (fun q h1 h2 => hF_10 q (by omega))
        have h_p0nm := h_p0nm.keep (fun q h1 h2 => hF_10 q (by omega))
        have h_p0nj := h_p0nj.keep (fun q h1 h2 => hF_10 q (by omega))
        have h_p0h := h_p0h.keep (fun q h1 h2 => hF_10 q (by omega))
        have h_p0b := h_p0b.keep (fun q h1 h2 => hF_10 q (by omega))
        have hE : ∀ q : Nat, (q < (p0 + 19) ∨ (p0 + 19) + 5 ≤ q) → (q < (p0 + 33) ∨ (p0 + 33) + 92 ≤ q) → Ω_10 q = Ω q := fun q g0 g1 => (hF_10 q (by omega)).trans (hE q g0 g1)
        refine lv_iload_n hx hb dX8_breaks_70 rfl (lv_at hl 0 rfl) ?_
        subst hR
        exact W.iret (v := (p0nd_3 x1.toNatClampNeg)) hx hb hr (fun t ht hW9 => ⟨⟨(p0nd_3 x1.toNatClampNeg), Ω_10, rfl, ⟨rfl, h_p0nd, h_p0h, hE⟩, by rw [oB, ht]; exact hW⟩, hS.F ht⟩) hS.2.2 dX8_breaks_71
      · rw [if_pos c_8] at hR
        have i_8 := congrArg Int32.toInt c_8
        refine lv_bipush (v := (-2 : Int32)) hx hb dX8_breaks_43 (by decide) ?_
        subst hR
        exact W.iret (v := (-2 : Int32)) hx hb hr (fun t ht hW9 => ⟨⟨(-2 : Int32), Ω, rfl, ⟨rfl, h_p0nd, h_p0h, hE⟩, by rw [oB, ht]; exact hW⟩, hS.F ht⟩) hS.2.2 dX8_breaks_45
    · rw [if_pos c_7] at hR
      have i_7 := congrArg Int32.toInt c_7
      refine lv_iconst (v := (-1 : Int32)) hx hb dX8_breaks_23 (by decide) ?_
      subst hR
      exact W.iret (v := (-1 : Int32)) hx hb hr (fun t ht hW9 => ⟨⟨(-1 : Int32), Ω, rfl, ⟨rfl, h_p0nd, h_p0h, hE⟩, by rw [oB, ht]; exact hW⟩, hS.F ht⟩) hS.2.2 dX8_breaks_24
set_option maxHeartbeats 4000000 in
set_option maxRecDepth 100000 in
theorem c_X8_undo (l : Launch) (G : Gm) (A : Nat → Prop) (Ω : Om) (p0 : Nat) (p0b : Nat) (p0pb : Nat) (p0n_0 : Int32) (p0n_1 : Int32) (p0nd_0 : Fn) (p0nd_1 : Fn) (p0nd_2 : Fn) (p0nd_3 : Fn) (p0nm_0 : Fn) (p0nm_1 : Fn) (p0nm_2 : Fn) (p0nm_3 : Fn) (p0nj_0 : Int32) (p0nj_1 : Fn) (p0nj_2 : Fn) (p0nj_3 : Fn) (p0h_0 : Nat → Sit) (p0h_1 : Int32) (p0h_2 : Int32) (hbo : (p0b = p0 + 4 ∧ p0pb = p0 + 132) ∨ (p0b = p0 + 132 ∧ p0pb = p0 + 4)) (hx9 : 0 ≤ p0h_1.toInt ∧ p0h_1.toInt < 6) (h_p0 : inMBO G Ω p0 p0b) (h_p0n : inSitO G Ω (p0 + 18) p0n_0 p0n_1) (h_p0nd : inDev G Ω (p0 + 19) p0nd_0 p0nd_1 p0nd_2 p0nd_3) (h_p0nm : inDev G Ω (p0 + 24) p0nm_0 p0nm_1 p0nm_2 p0nm_3) (h_p0nj : inJou G Ω (p0 + 29) p0nj_0 p0nj_1 p0nj_2 p0nj_3) (h_p0h : inHis G Ω (p0 + 33) p0h_0 p0h_1 p0h_2) : Met l yX8_undo (wz yX8_undo cX8_undo 1 (some .int)) ({ frames := 4, cells := 0, slots := 0, locals := 124 } : Room) (va_Pc [.ref p0] (oS G A Ω)) (va_Qi (fun (r : Int32) (Ω1 : Om) => r = (f_X8_undo p0n_0 p0n_1 p0nd_0 p0nd_1 p0nd_2 p0nd_3 p0nm_0 p0nm_1 p0nm_2 p0nm_3 p0nj_0 p0nj_1 p0nj_2 p0nj_3 p0h_0 p0h_1 p0h_2).1 ∧ inSitO G Ω1 (p0 + 18) ((f_X8_undo p0n_0 p0n_1 p0nd_0 p0nd_1 p0nd_2 p0nd_3 p0nm_0 p0nm_1 p0nm_2 p0nm_3 p0nj_0 p0nj_1 p0nj_2 p0nj_3 p0h_0 p0h_1 p0h_2).2.1) ((f_X8_undo p0n_0 p0n_1 p0nd_0 p0nd_1 p0nd_2 p0nd_3 p0nm_0 p0nm_1 p0nm_2 p0nm_3 p0nj_0 p0nj_1 p0nj_2 p0nj_3 p0h_0 p0h_1 p0h_2).2.2.1) ∧ inDev G Ω1 (p0 + 19) ((f_X8_undo p0n_0 p0n_1 p0nd_0 p0nd_1 p0nd_2 p0nd_3 p0nm_0 p0nm_1 p0nm_2 p0nm_3 p0nj_0 p0nj_1 p0nj_2 p0nj_3 p0h_0 p0h_1 p0h_2).2.2.2.1) ((f_X8_undo p0n_0 p0n_1 p0nd_0 p0nd_1 p0nd_2 p0nd_3 p0nm_0 p0nm_1 p0nm_2 p0nm_3 p0nj_0 p0nj_1 p0nj_2 p0nj_3 p0h_0 p0h_1 p0h_2).2.2.2.2.1) ((f_X8_undo p0n_0 p0n_1 p0nd_0 p0nd_1 p0nd_2 p0nd_3 p0nm_0 p0nm_1 p0nm_2 p0nm_3 p0nj_0 p0nj_1 p0nj_2 p0nj_3 p0h_0 p0h_1 p0h_2).2.2.2.2.2.1) ((f_X8_undo p0n_0 p0n_1 p0nd_0 p0nd_1 p0nd_2 p0nd_3 p0nm_0 p0nm_1 p0nm_2 p0nm_3 p0nj_0 p0nj_1 p0nj_2 p0nj_3 p0h_0 p0h_1 p0h_2).2.2.2.2.2.2.1) ∧ inDev G Ω1 (p0 + 24) ((f_X8_undo p0n_0 p0n_1 p0nd_0 p0nd_1 p0nd_2 p0nd_3 p0nm_0 p0nm_1 p0nm_2 p0nm_3 p0nj_0 p0nj_1 p0nj_2 p0nj_3 p0h_0 p0h_1 p0h_2).2.2.2.2.2.2.2.1) ((f_X8_undo p0n_0 p0n_1 p0nd_0 p0nd_1 p0nd_2 p0nd_3 p0nm_0 p0nm_1 p0nm_2 p0nm_3 p0nj_0 p0nj_1 p0nj_2 p0nj_3 p0h_0 p0h_1 p0h_2).2.2.2.2.2.2.2.2.1) ((f_X8_undo p0n_0 p0n_1 p0nd_0 p0nd_1 p0nd_2 p0nd_3 p0nm_0 p0nm_1 p0nm_2 p0nm_3 p0nj_0 p0nj_1 p0nj_2 p0nj_3 p0h_0 p0h_1 p0h_2).2.2.2.2.2.2.2.2.2.1) ((f_X8_undo p0n_0 p0n_1 p0nd_0 p0nd_1 p0nd_2 p0nd_3 p0nm_0 p0nm_1 p0nm_2 p0nm_3 p0nj_0 p0nj_1 p0nj_2 p0nj_3 p0h_0 p0h_1 p0h_2).2.2.2.2.2.2.2.2.2.2.1) ∧ inJou G Ω1 (p0 + 29) ((f_X8_undo p0n_0 p0n_1 p0nd_0 p0nd_1 p0nd_2 p0nd_3 p0nm_0 p0nm_1 p0nm_2 p0nm_3 p0nj_0 p0nj_1 p0nj_2 p0nj_3 p0h_0 p0h_1 p0h_2).2.2.2.2.2.2.2.2.2.2.2.1) ((f_X8_undo p0n_0 p0n_1 p0nd_0 p0nd_1 p0nd_2 p0nd_3 p0nm_0 p0nm_1 p0nm_2 p0nm_3 p0nj_0 p0nj_1 p0nj_2 p0nj_3 p0h_0 p0h_1 p0h_2).2.2.2.2.2.2.2.2.2.2.2.2.1) ((f_X8_undo p0n_0 p0n_1 p0nd_0 p0nd_1 p0nd_2 p0nd_3 p0nm_0 p0nm_1 p0nm_2 p0nm_3 p0nj_0 p0nj_1 p0nj_2 p0nj_3 p0h_0 p0h_1 p0h_2).2.2.2.2.2.2.2.2.2.2.2.2.2.1) ((f_X8_undo p0n_0 p0n_1 p0nd_0 p0nd_1 p0nd_2 p0nd_3 p0nm_0 p0nm_1 p0nm_2 p0nm_3 p0nj_0 p0nj_1 p0nj_2 p0nj_3 p0h_0 p0h_1 p0h_2).2.2.2.2.2.2.2.2.2.2.2.2.2.2.1) ∧ inHis G Ω1 (p0 + 33) p0h_0 ((f_X8_undo p0n_0 p0n_1 p0nd_0 p0nd_1 p0nd_2 p0nd_3 p0nm_0 p0nm_1 p0nm_2 p0nm_3 p0nj_0 p0nj_1 p0nj_2 p0nj_3 p0h_0 p0h_1 p0h_2).2.2.2.2.2.2.2.2.2.2.2.2.2.2.2.1) ((f_X8_undo p0n_0 p0n_1 p0nd_0 p0nd_1 p0nd_2 p0nd_3 p0nm_0 p0nm_1 p0nm_2 p0nm_3 p0nj_0 p0nj_1 p0nj_2 p0nj_3 p0h_0 p0h_1 p0h_2).2.2.2.2.2.2.2.2.2.2.2.2.2.2.2.2) ∧ (∀ q : Nat, (q < (p0 + 18) ∨ (p0 + 18) + 1 ≤ q) → (q < (p0 + 19) ∨ (p0 + 19) + 5 ≤ q) → (q < (p0 + 24) ∨ (p0 + 24) + 5 ≤ q) → (q < (p0 + 29) ∨ (p0 + 29) + 4 ≤ q) → (q < (p0 + 33) ∨ (p0 + 33) + 92 ≤ q) → Ω1 q = Ω q)) (oB G A) A) 0 0 A := by
  refine Met.ofW (cc := cX8_undo) (maxL := 1) (ret := (some .int)) (by decide) rfl ?_
  intro p e s m args below meth c s₁ B hml hv
  obtain ⟨rfl, hW, hK, hN, hZ⟩ := hv
  have hx := B.exec
  have hb := B.bytes
  have hr := B.returns
  have hts : ∀ w ∈ gt, w.before _ s = true := fun w hw => atoms_spec (ws := wz yX8_undo cX8_undo 1 (some .int)) B.pre w (List.mem_cons_of_mem _ hw)
  have hown : s.vm.findClass RX8 = some m.cls := findClass_of_methodNamed B.named
  have hlocks := B.notSynchronized
  have hA : ∀ q, A q → A q := fun _ h => h
  have hS : va_S A s.heap s.heap [] := va_S.rf
  have hS0 := hS
  have hl := lv_entry ([.ref p0]) (n := 1) (Nat.le_of_ble_eq_true rfl)
  rw [lg_entry_eq]
  generalize (lg_sl ([.ref p0]) ++ List.replicate (1 - (lg_sl ([.ref p0])).length) Slot.unset).toArray = ls at hl ⊢
  have hl : lv_has ls 1 [(0, .ref p0)] := hl
  have hE : ∀ q : Nat, (q < (p0 + 18) ∨ (p0 + 18) + 1 ≤ q) → (q < (p0 + 19) ∨ (p0 + 19) + 5 ≤ q) → (q < (p0 + 24) ∨ (p0 + 24) + 5 ≤ q) → (q < (p0 + 29) ∨ (p0 + 29) + 4 ≤ q) → (q < (p0 + 33) ∨ (p0 + 33) + 92 ≤ q) → Ω q = Ω q := by intros; rfl
  generalize hR : (f_X8_undo p0n_0 p0n_1 p0nd_0 p0nd_1 p0nd_2 p0nd_3 p0nm_0 p0nm_1 p0nm_2 p0nm_3 p0nj_0 p0nj_1 p0nj_2 p0nj_3 p0h_0 p0h_1 p0h_2) = R
  rw [f_X8_undo] at hR
  refine lv_aload_n hx hb dX8_undo_0 rfl (lv_at hl 0 rfl) ?_
  refine o_get hx hb hts hown hK hW (inMBO_o h_p0) rfl ig8 3 (by decide) fl_X8_35 rfl dX8_undo_1 ?_
  refine o_get hx hb hts hown hK hW (inHis_o h_p0h) rfl ig2 2 (by decide) fl_X8_133 rfl dX8_undo_4 ?_
  have j_2 : (0 : Int32).toInt = 0 := by decide
  refine lv_if_ne (tgt := 13) hx hb dX8_undo_7 (by decide) (fun c_1 => ?_) (fun c_1 => ?_)
  · rw [if_neg c_1] at hR
    have i_1 := rne c_1
    refine lv_aload_n hx hb dX8_undo_13 rfl (lv_at hl 0 rfl) ?_
    refine o_get hx hb hts hown hK hW (inMBO_o h_p0) rfl ig8 3 (by decide) fl_X8_35 rfl dX8_undo_14 ?_
    refine lv_aload_n hx hb dX8_undo_17 rfl (lv_at hl 0 rfl) ?_
    refine o_get hx hb hts hown hK hW (inMBO_o h_p0) rfl ig8 2 (by decide) fl_X8_28 rfl dX8_undo_18 ?_
    refine o_Vv (rest := []) (As := [.ref (p0 + 18)]) (n := 1) hx hb hml hown hts hK hN hZ hW hS hA (c_X2_recall l G A Ω (p0 + 33) (p0 + 18) p0h_0 p0h_1 p0h_2 p0n_0 p0n_1 p0nd_0 p0nd_1 p0nd_2 p0nd_3 p0nm_0 p0nm_1 p0nm_2 p0nm_3 p0nj_0 p0nj_1 p0nj_2 p0nj_3 (by omega) (by omega) h_p0h h_p0n h_p0nd h_p0nm h_p0nj) (inHis_o h_p0h) rfl (good_V ml_X8_134 im_X2_recall se_X2_recall ini_X2 co_X2_recall) (by decide +kernel) ⟨Nat.zero_le _, Nat.zero_le _⟩ hl.1 (Nat.le_of_ble_eq_true rfl) rfl rfl dX8_undo_21 (fun Ω_3 H locs hp hW hS => ?_)
    obtain ⟨h_p0h, h_p0n, h_p0nd, h_p0nm, h_p0nj, hF_3⟩ := hp
    have h_p0 := h_p0.keep (fun q h1 h2 => hF_3 q (by omega) (by omega) (by omega) (by omega) (by omega))
    have hE : ∀ q : Nat, (q < (p0 + 18) ∨ (p0 + 18) + 1 ≤ q) → (q < (p0 + 19) ∨ (p0 + 19) + 5 ≤ q) → (q < (p0 + 24) ∨ (p0 + 24) + 5 ≤ q) → (q < (p0 + 29) ∨ (p0 + 29) + 4 ≤ q) → (q < (p0 + 33) ∨ (p0 + 33) + 92 ≤ q) → Ω_3 q = Ω q := fun q g0 g1 g2 g3 g4 => (hF_3 q (by omega) (by omega) (by omega) (by omega) (by omega)).trans (hE q g0 g1 g2 g3 g4)
    generalize (f_X2_recall p0h_0 p0h_1 p0h_2 p0n_0 p0n_1 p0nd_0 p0nd_1 p0nd_2 p0nd_3 p0nm_0 p0nm_1 p0nm_2 p0nm_3 p0nj_0 p0nj_1 p0nj_2 p0nj_3) = Z_3 at h_p0h h_p0n h_p0nd h_p0nm h_p0nj hR
    obtain ⟨z3_0, z3_1, z3_2, z3_3, z3_4, z3_5, z3_6, z3_7, z3_8, z3_9, z3_10, z3_11, z3_12, z3_13, z3_14, z3_15⟩ := Z_3
    dsimp only at h_p0h h_p0n h_p0nd h_p0nm h_p0nj hR
    rw [f_X8_undo_C24] at hR
    refine lv_aload_n hx hb dX8_undo_24 rfl (lv_at hl 0 rfl) ?_
    refine o_get hx hb hts hown hK hW (inMBO_o h_p0) rfl ig8 3 (by decide) fl_X8_35 rfl dX8_undo_25 ?_
    refine o_get hx hb hts hown hK hW (inHis_o h_p0h) rfl ig2 2 (by decide) fl_X8_133 rfl dX8_undo_28 ?_
    subst hR
    exact W.iret (v := z3_1) hx hb hr (fun t ht hW9 => ⟨⟨z3_1, Ω_3, rfl, ⟨rfl, h_p0n, h_p0nd, h_p0nm, h_p0nj, h_p0h, hE⟩, by rw [oB, ht]; exact hW⟩, hS.F ht⟩) hS.2.2 dX8_undo_31
  · rw [if_pos c_1] at hR
    have i_1 := congrArg Int32.toInt c_1
    refine lv_bipush (v := (-2 : Int32)) hx hb dX8_undo_10 (by decide) ?_
    subst hR
    exact W.iret (v := (-2 : Int32)) hx hb hr (fun t ht hW9 => ⟨⟨(-2 : Int32), Ω, rfl, ⟨rfl, h_p0n, h_p0nd, h_p0nm, h_p0nj, h_p0h, hE⟩, by rw [oB, ht]; exact hW⟩, hS.F ht⟩) hS.2.2 dX8_undo_12
set_option maxHeartbeats 4000000 in
set_option maxRecDepth 100000 in
theorem c_X8_field (l : Launch) (G : Gm) (A : Nat → Prop) (Ω : Om) (p0 : Nat) (p0b : Nat) (p0pb : Nat) (p0n_0 : Int32) (p0n_1 : Int32) (p0nd_0 : Fn) (p0nd_1 : Fn) (p0nd_2 : Fn) (p0nd_3 : Fn) (p0nm_0 : Fn) (p0nm_1 : Fn) (p0nm_2 : Fn) (p0nm_3 : Fn) (p0b_0 : Blk) (x1 : Int32) (x2 : Int32) (hbo : (p0b = p0 + 4 ∧ p0pb = p0 + 132) ∨ (p0b = p0 + 132 ∧ p0pb = p0 + 4)) (hB_p0b : BlkInv p0b_0) (h_p0 : inMBO G Ω p0 p0b) (h_p0n : inSitO G Ω (p0 + 18) p0n_0 p0n_1) (h_p0nd : inDev G Ω (p0 + 19) p0nd_0 p0nd_1 p0nd_2 p0nd_3) (h_p0nm : inDev G Ω (p0 + 24) p0nm_0 p0nm_1 p0nm_2 p0nm_3) (h_p0b : inBlk G Ω p0b p0b_0) : Met l yX8_field (wz yX8_field cX8_field 3 (some .int)) ({ frames := 1, cells := 0, slots := 0, locals := 22 } : Room) (va_Pc [.ref p0, .int x1, .int x2] (oS G A Ω)) (va_Qi (fun (r : Int32) (Ω1 : Om) => r = (f_X8_field p0nd_0 p0nd_3 p0nm_0 p0b_0 x1 x2) ∧ Ω1 = Ω) (oB G A) A) 0 0 A := by
  refine Met.ofW (cc := cX8_field) (maxL := 3) (ret := (some .int)) (by decide) rfl ?_
  intro p e s m args below meth c s₁ B hml hv
  obtain ⟨rfl, hW, hK, hN, hZ⟩ := hv
  have hx := B.exec
  have hb := B.bytes
  have hr := B.returns
  have hts : ∀ w ∈ gt, w.before _ s = true := fun w hw => atoms_spec (ws := wz yX8_field cX8_field 3 (some .int)) B.pre w (List.mem_cons_of_mem _ hw)
  have hown : s.vm.findClass RX8 = some m.cls := findClass_of_methodNamed B.named
  have hlocks := B.notSynchronized
  have hA : ∀ q, A q → A q := fun _ h => h
  have hS : va_S A s.heap s.heap [] := va_S.rf
  have hS0 := hS
  have hl := lv_entry ([.ref p0, .int x1, .int x2]) (n := 3) (Nat.le_of_ble_eq_true rfl)
  rw [lg_entry_eq]
  generalize (lg_sl ([.ref p0, .int x1, .int x2]) ++ List.replicate (3 - (lg_sl ([.ref p0, .int x1, .int x2])).length) Slot.unset).toArray = ls at hl ⊢
  have hl : lv_has ls 3 [(0, .ref p0), (1, .int x1), (2, .int x2)] := hl
  generalize hR : (f_X8_field p0nd_0 p0nd_3 p0nm_0 p0b_0 x1 x2) = R
  rw [f_X8_field] at hR
  refine lv_iload_n hx hb dX8_field_0 rfl (lv_at hl 1 rfl) ?_
  refine lv_aload_n hx hb dX8_field_1 rfl (lv_at hl 0 rfl) ?_
  refine o_get hx hb hts hown hK hW (inMBO_o h_p0) rfl ig8 7 (by decide) fl_X8_57 rfl dX8_field_2 ?_
  refine o_get hx hb hts hown hK hW (inBlk_o h_p0b) rfl ig0 1 (by decide) fl_X8_126 rfl dX8_field_5 ?_
  try have j_1 : 0 ≤ (p0b_0 0 1).toInt ∧ (p0b_0 0 1).toInt ≤ 12 := BI_flds (by assumption)
  refine o_SiR (rest := []) (As := [.int x1, .int (p0b_0 0 1)]) (n := 2) hx hb hml hown hts hK hN hZ hW hS hA (c_X8_isWithin l G A Ω x1 (p0b_0 0 1)) ml_X8_61 st_X8_isWithin ini_X8 co_X8_isWithin (by decide +kernel) ⟨Nat.zero_le _, Nat.zero_le _⟩ hl.1 (Nat.le_of_ble_eq_true rfl) rfl rfl dX8_field_8 (fun r H locs hp hW hS => ?_)
  obtain ⟨rfl, hz_2⟩ := hp
  have j_4 : (0 : Int32).toInt = 0 := by decide
  refine lv_if_ne (tgt := 16) hx hb dX8_field_11 (by decide) (fun c_3 => ?_) (fun c_3 => ?_)
  · rw [if_neg c_3] at hR
    have i_3 := rne c_3
    have b_c_3 := rIW c_3
    refine lv_iload_n hx hb dX8_field_16 rfl (lv_at hl 2 rfl) ?_
    by_cases c_5 : x2 = (0 : Int32)
    · rw [if_pos c_5] at hR
      refine lv_tableIn (tgt := 64) hx hb dX8_field_17 (by rw [c_5]; decide) (by rw [c_5]; decide) (by rw [c_5]; rfl) (by decide) ?_
      have i_5 := congrArg Int32.toInt c_5
      refine lv_aload_n hx hb dX8_field_64 rfl (lv_at hl 0 rfl) ?_
      refine o_get hx hb hts hown hK hW (inMBO_o h_p0) rfl ig8 7 (by decide) fl_X8_57 rfl dX8_field_65 ?_
      refine o_get hx hb hts hown hK hW (inBlk_o h_p0b) rfl ig0 6 (by decide) fl_X8_137 rfl dX8_field_68 ?_
      refine lv_iload_n hx hb dX8_field_71 rfl (lv_at hl 1 rfl) ?_
      refine o_iald hx hb hK hW (inBlk_a3 h_p0b) (vp_in_iff.mpr ⟨by omega, by omega⟩) dX8_field_72 ?_
      subst hR
      exact W.iret (v := ((p0b_0 4) x1.toNatClampNeg)) hx hb hr (fun t ht hW9 => ⟨⟨((p0b_0 4) x1.toNatClampNeg), Ω, rfl, ⟨rfl, rfl⟩, by rw [oB, ht]; exact hW⟩, hS.F ht⟩) hS.2.2 dX8_field_73
    rw [if_neg c_5] at hR
    by_cases c_6 : x2 = (1 : Int32)
    · rw [if_pos c_6] at hR
      refine lv_tableIn (tgt := 74) hx hb dX8_field_17 (by rw [c_6]; decide) (by rw [c_6]; decide) (by rw [c_6]; rfl) (by decide) ?_
      have i_6 := congrArg Int32.toInt c_6
      refine lv_aload_n hx hb dX8_field_74 rfl (lv_at hl 0 rfl) ?_
      refine o_get hx hb hts hown hK hW (inMBO_o h_p0) rfl ig8 7 (by decide) fl_X8_57 rfl dX8_field_75 ?_
      refine o_get hx hb hts hown hK hW (inBlk_o h_p0b) rfl ig0 8 (by decide) fl_X8_140 rfl dX8_field_78 ?_
      refine lv_iload_n hx hb dX8_field_81 rfl (lv_at hl 1 rfl) ?_
      refine o_iald hx hb hK hW (inBlk_a5 h_p0b) (vp_in_iff.mpr ⟨by omega, by omega⟩) dX8_field_82 ?_
      subst hR
      exact W.iret (v := ((p0b_0 6) x1.toNatClampNeg)) hx hb hr (fun t ht hW9 => ⟨⟨((p0b_0 6) x1.toNatClampNeg), Ω, rfl, ⟨rfl, rfl⟩, by rw [oB, ht]; exact hW⟩, hS.F ht⟩) hS.2.2 dX8_field_83
    rw [if_neg c_6] at hR
    by_cases c_7 : x2 = (2 : Int32)
    · rw [if_pos c_7] at hR
      refine lv_tableIn (tgt := 84) hx hb dX8_field_17 (by rw [c_7]; decide) (by rw [c_7]; decide) (by rw [c_7]; rfl) (by decide) ?_
      have i_7 := congrArg Int32.toInt c_7
      refine lv_aload_n hx hb dX8_field_84 rfl (lv_at hl 0 rfl) ?_
      refine o_get hx hb hts hown hK hW (inMBO_o h_p0) rfl ig8 7 (by decide) fl_X8_57 rfl dX8_field_85 ?_
      refine o_get hx hb hts hown hK hW (inBlk_o h_p0b) rfl ig0 9 (by decide) fl_X8_143 rfl dX8_field_88 ?_
      refine lv_iload_n hx hb dX8_field_91 rfl (lv_at hl 1 rfl) ?_
      refine o_iald hx hb hK hW (inBlk_a6 h_p0b) (vp_in_iff.mpr ⟨by omega, by omega⟩) dX8_field_92 ?_
      subst hR
      exact W.iret (v := ((p0b_0 7) x1.toNatClampNeg)) hx hb hr (fun t ht hW9 => ⟨⟨((p0b_0 7) x1.toNatClampNeg), Ω, rfl, ⟨rfl, rfl⟩, by rw [oB, ht]; exact hW⟩, hS.F ht⟩) hS.2.2 dX8_field_93
    rw [if_neg c_7] at hR
    by_cases c_8 : x2 = (3 : Int32)
    · rw [if_pos c_8] at hR
      refine lv_tableIn (tgt := 94) hx hb dX8_field_17 (by rw [c_8]; decide) (by rw [c_8]; decide) (by rw [c_8]; rfl) (by decide) ?_
      have i_8 := congrArg Int32.toInt c_8
      refine lv_aload_n hx hb dX8_field_94 rfl (lv_at hl 0 rfl) ?_
      refine o_get hx hb hts hown hK hW (inMBO_o h_p0) rfl ig8 7 (by decide) fl_X8_57 rfl dX8_field_95 ?_
      refine o_get hx hb hts hown hK hW (inBlk_o h_p0b) rfl ig0 7 (by decide) fl_X8_146 rfl dX8_field_98 ?_
      refine lv_iload_n hx hb dX8_field_101 rfl (lv_at hl 1 rfl) ?_
      refine o_iald hx hb hK hW (inBlk_a4 h_p0b) (vp_in_iff.mpr ⟨by omega, by omega⟩) dX8_field_102 ?_
      subst hR
      exact W.iret (v := ((p0b_0 5) x1.toNatClampNeg)) hx hb hr (fun t ht hW9 => ⟨⟨((p0b_0 5) x1.toNatClampNeg), Ω, rfl, ⟨rfl, rfl⟩, by rw [oB, ht]; exact hW⟩, hS.F ht⟩) hS.2.2 dX8_field_103
    rw [if_neg c_8] at hR
    by_cases c_9 : x2 = (4 : Int32)
    · rw [if_pos c_9] at hR
      refine lv_tableIn (tgt := 104) hx hb dX8_field_17 (by rw [c_9]; decide) (by rw [c_9]; decide) (by rw [c_9]; rfl) (by decide) ?_
      have i_9 := congrArg Int32.toInt c_9
      refine lv_aload_n hx hb dX8_field_104 rfl (lv_at hl 0 rfl) ?_
      refine o_get hx hb hts hown hK hW (inMBO_o h_p0) rfl ig8 7 (by decide) fl_X8_57 rfl dX8_field_105 ?_
      refine o_get hx hb hts hown hK hW (inBlk_o h_p0b) rfl ig0 11 (by decide) fl_X8_149 rfl dX8_field_108 ?_
      refine lv_iload_n hx hb dX8_field_111 rfl (lv_at hl 1 rfl) ?_
      refine o_iald hx hb hK hW (inBlk_a8 h_p0b) (vp_in_iff.mpr ⟨by omega, by omega⟩) dX8_field_112 ?_
      subst hR
      exact W.iret (v := ((p0b_0 9) x1.toNatClampNeg)) hx hb hr (fun t ht hW9 => ⟨⟨((p0b_0 9) x1.toNatClampNeg), Ω, rfl, ⟨rfl, rfl⟩, by rw [oB, ht]; exact hW⟩, hS.F ht⟩) hS.2.2 dX8_field_113
    rw [if_neg c_9] at hR
    by_cases c_10 : x2 = (5 : Int32)
    · rw [if_pos c_10] at hR
      refine lv_tableIn (tgt := 114) hx hb dX8_field_17 (by rw [c_10]; decide) (by rw [c_10]; decide) (by rw [c_10]; rfl) (by decide) ?_
      have i_10 := congrArg Int32.toInt c_10
      refine lv_aload_n hx hb dX8_field_114 rfl (lv_at hl 0 rfl) ?_
      refine o_get hx hb hts hown hK hW (inMBO_o h_p0) rfl ig8 2 (by decide) fl_X8_28 rfl dX8_field_115 ?_
      refine o_get hx hb hts hown hK hW (inSitO_o h_p0n) rfl ig5 0 (by decide) fl_X8_117 rfl dX8_field_118 ?_
      refine lv_aload_n hx hb dX8_field_121 rfl (lv_at hl 0 rfl) ?_
      refine o_get hx hb hts hown hK hW (inMBO_o h_p0) rfl ig8 7 (by decide) fl_X8_57 rfl dX8_field_122 ?_
      refine lv_iload_n hx hb dX8_field_125 rfl (lv_at hl 1 rfl) ?_
      refine o_ViR (rest := []) (As := [.ref p0b, .int x1]) (n := 2) hx hb hml hown hts hK hN hZ hW hS hA (c_X1_valueOf l G A Ω (p0 + 19) p0b p0nd_0 p0nd_1 p0nd_2 p0nd_3 p0b_0 x1 hB_p0b (by omega) h_p0nd h_p0b) (inDev_o h_p0nd) rfl (good_V ml_X8_120 im_X1_valueOf se_X1_valueOf ini_X1 co_X1_valueOf) (by decide +kernel) ⟨Nat.zero_le _, Nat.zero_le _⟩ hl.1 (Nat.le_of_ble_eq_true rfl) rfl rfl dX8_field_126 (fun r H locs hp hW hS => ?_)
      subst hp
      subst hR
      exact W.iret (v := (f_X1_valueOf p0nd_0 p0b_0 x1)) hx hb hr (fun t ht hW9 => ⟨⟨(f_X1_valueOf p0nd_0 p0b_0 x1), Ω, rfl, ⟨rfl, rfl⟩, by rw [oB, ht]; exact hW⟩, hS.F ht⟩) hS.2.2 dX8_field_129
    rw [if_neg c_10] at hR
    by_cases c_12 : x2 = (6 : Int32)
    · rw [if_pos c_12] at hR
      refine lv_tableIn (tgt := 130) hx hb dX8_field_17 (by rw [c_12]; decide) (by rw [c_12]; decide) (by rw [c_12]; rfl) (by decide) ?_
      have i_12 := congrArg Int32.toInt c_12
      refine lv_aload_n hx hb dX8_field_130 rfl (lv_at hl 0 rfl) ?_
      refine o_get hx hb hts hown hK hW (inMBO_o h_p0) rfl ig8 2 (by decide) fl_X8_28 rfl dX8_field_131 ?_
      refine o_get hx hb hts hown hK hW (inSitO_o h_p0n) rfl ig5 1 (by decide) fl_X8_152 rfl dX8_field_134 ?_
      refine lv_aload_n hx hb dX8_field_137 rfl (lv_at hl 0 rfl) ?_
      refine o_get hx hb hts hown hK hW (inMBO_o h_p0) rfl ig8 7 (by decide) fl_X8_57 rfl dX8_field_138 ?_
      refine lv_iload_n hx hb dX8_field_141 rfl (lv_at hl 1 rfl) ?_
      refine o_ViR (rest := []) (As := [.ref p0b, .int x1]) (n := 2) hx hb hml hown hts hK hN hZ hW hS hA (c_X1_valueOf l G A Ω (p0 + 24) p0b p0nm_0 p0nm_1 p0nm_2 p0nm_3 p0b_0 x1 hB_p0b (by omega) h_p0nm h_p0b) (inDev_o h_p0nm) rfl (good_V ml_X8_120 im_X1_valueOf se_X1_valueOf ini_X1 co_X1_valueOf) (by decide +kernel) ⟨Nat.zero_le _, Nat.zero_le _⟩ hl.1 (Nat.le_of_ble_eq_true rfl) rfl rfl dX8_field_142 (fun r H locs hp hW hS => ?_)
      subst hp
      subst hR
      exact W.iret (v := (f_X1_valueOf p0nm_0 p0b_0 x1)) hx hb hr (fun t ht hW9 => ⟨⟨(f_X1_valueOf p0nm_0 p0b_0 x1), Ω, rfl, ⟨rfl, rfl⟩, by rw [oB, ht]; exact hW⟩, hS.F ht⟩) hS.2.2 dX8_field_145
    rw [if_neg c_12] at hR
    by_cases c_14 : x2 = (7 : Int32)
    · rw [if_pos c_14] at hR
      refine lv_tableIn (tgt := 146) hx hb dX8_field_17 (by rw [c_14]; decide) (by rw [c_14]; decide) (by rw [c_14]; rfl) (by decide) ?_
      have i_14 := congrArg Int32.toInt c_14
      refine lv_aload_n hx hb dX8_field_146 rfl (lv_at hl 0 rfl) ?_
      refine o_get hx hb hts hown hK hW (inMBO_o h_p0) rfl ig8 2 (by decide) fl_X8_28 rfl dX8_field_147 ?_
      refine o_get hx hb hts hown hK hW (inSitO_o h_p0n) rfl ig5 0 (by decide) fl_X8_117 rfl dX8_field_150 ?_
      refine o_get hx hb hts hown hK hW (inDev_o h_p0nd) rfl ig1 3 (by decide) fl_X8_129 rfl dX8_field_153 ?_
      refine lv_iload_n hx hb dX8_field_156 rfl (lv_at hl 1 rfl) ?_
      refine o_iald hx hb hK hW (inDev_a3 h_p0nd) (vp_in_iff.mpr ⟨by omega, by omega⟩) dX8_field_157 ?_
      subst hR
      exact W.iret (v := (p0nd_3 x1.toNatClampNeg)) hx hb hr (fun t ht hW9 => ⟨⟨(p0nd_3 x1.toNatClampNeg), Ω, rfl, ⟨rfl, rfl⟩, by rw [oB, ht]; exact hW⟩, hS.F ht⟩) hS.2.2 dX8_field_158
    rw [if_neg c_14] at hR
    have i_5 := lv_neT c_5 (a := 0) rfl
    have i_6 := lv_neT c_6 (a := 1) rfl
    have i_7 := lv_neT c_7 (a := 2) rfl
    have i_8 := lv_neT c_8 (a := 3) rfl
    have i_9 := lv_neT c_9 (a := 4) rfl
    have i_10 := lv_neT c_10 (a := 5) rfl
    have i_12 := lv_neT c_12 (a := 6) rfl
    have i_14 := lv_neT c_14 (a := 7) rfl
    refine lv_tableOut (tgt := 159) hx hb dX8_field_17 (by omega) (by decide) ?_
    refine lv_iconst (v := (-1 : Int32)) hx hb dX8_field_159 (by decide) ?_
    subst hR
    exact W.iret (v := (-1 : Int32)) hx hb hr (fun t ht hW9 => ⟨⟨(-1 : Int32), Ω, rfl, ⟨rfl, rfl⟩, by rw [oB, ht]; exact hW⟩, hS.F ht⟩) hS.2.2 dX8_field_160
  · rw [if_pos c_3] at hR
    have i_3 := congrArg Int32.toInt c_3
    refine lv_iconst (v := (-1 : Int32)) hx hb dX8_field_14 (by decide) ?_
    subst hR
    exact W.iret (v := (-1 : Int32)) hx hb hr (fun t ht hW9 => ⟨⟨(-1 : Int32), Ω, rfl, ⟨rfl, rfl⟩, by rw [oB, ht]; exact hW⟩, hS.F ht⟩) hS.2.2 dX8_field_15
set_option maxHeartbeats 4000000 in
set_option maxRecDepth 100000 in
theorem c_X8_register (l : Launch) (G : Gm) (A : Nat → Prop) (Ω : Om) (p0 : Nat) (p0b : Nat) (p0pb : Nat) (p0n_0 : Int32) (p0n_1 : Int32) (p0nd_0 : Fn) (p0nd_1 : Fn) (p0nd_2 : Fn) (p0nd_3 : Fn) (p0b_0 : Blk) (x1 : Int32) (x2 : Int32) (hbo : (p0b = p0 + 4 ∧ p0pb = p0 + 132) ∨ (p0b = p0 + 132 ∧ p0pb = p0 + 4)) (hB_p0b : BlkInv p0b_0) (h_p0 : inMBO G Ω p0 p0b) (h_p0n : inSitO G Ω (p0 + 18) p0n_0 p0n_1) (h_p0nd : inDev G Ω (p0 + 19) p0nd_0 p0nd_1 p0nd_2 p0nd_3) (h_p0b : inBlk G Ω p0b p0b_0) : Met l yX8_register (wz yX8_register cX8_register 3 (some .int)) ({ frames := 2, cells := 0, slots := 0, locals := 45 } : Room) (va_Pc [.ref p0, .int x1, .int x2] (oS G A Ω)) (va_Qi (fun (r : Int32) (Ω1 : Om) => r = (f_X8_register p0nd_0 p0nd_1 p0b_0 x1 x2) ∧ Ω1 = Ω) (oB G A) A) 0 0 A := by
  refine Met.ofW (cc := cX8_register) (maxL := 3) (ret := (some .int)) (by decide) rfl ?_
  intro p e s m args below meth c s₁ B hml hv
  obtain ⟨rfl, hW, hK, hN, hZ⟩ := hv
  have hx := B.exec
  have hb := B.bytes
  have hr := B.returns
  have hts : ∀ w ∈ gt, w.before _ s = true := fun w hw => atoms_spec (ws := wz yX8_register cX8_register 3 (some .int)) B.pre w (List.mem_cons_of_mem _ hw)
  have hown : s.vm.findClass RX8 = some m.cls := findClass_of_methodNamed B.named
  have hlocks := B.notSynchronized
  have hA : ∀ q, A q → A q := fun _ h => h
  have hS : va_S A s.heap s.heap [] := va_S.rf
  have hS0 := hS
  have hl := lv_entry ([.ref p0, .int x1, .int x2]) (n := 3) (Nat.le_of_ble_eq_true rfl)
  rw [lg_entry_eq]
  generalize (lg_sl ([.ref p0, .int x1, .int x2]) ++ List.replicate (3 - (lg_sl ([.ref p0, .int x1, .int x2])).length) Slot.unset).toArray = ls at hl ⊢
  have hl : lv_has ls 3 [(0, .ref p0), (1, .int x1), (2, .int x2)] := hl
  generalize hR : (f_X8_register p0nd_0 p0nd_1 p0b_0 x1 x2) = R
  rw [f_X8_register] at hR
  refine lv_iload_n hx hb dX8_register_0 rfl (lv_at hl 1 rfl) ?_
  refine lv_aload_n hx hb dX8_register_1 rfl (lv_at hl 0 rfl) ?_
  refine o_get hx hb hts hown hK hW (inMBO_o h_p0) rfl ig8 7 (by decide) fl_X8_57 rfl dX8_register_2 ?_
  refine o_get hx hb hts hown hK hW (inBlk_o h_p0b) rfl ig0 0 (by decide) fl_X8_155 rfl dX8_register_5 ?_
  try have j_1 : 0 ≤ (p0b_0 0 0).toInt ∧ (p0b_0 0 0).toInt ≤ 6 := BI_regs (by assumption)
  refine o_SiR (rest := []) (As := [.int x1, .int (p0b_0 0 0)]) (n := 2) hx hb hml hown hts hK hN hZ hW hS hA (c_X8_isWithin l G A Ω x1 (p0b_0 0 0)) ml_X8_61 st_X8_isWithin ini_X8 co_X8_isWithin (by decide +kernel) ⟨Nat.zero_le _, Nat.zero_le _⟩ hl.1 (Nat.le_of_ble_eq_true rfl) rfl rfl dX8_register_8 (fun r H locs hp hW hS => ?_)
  obtain ⟨rfl, hz_2⟩ := hp
  have j_4 : (0 : Int32).toInt = 0 := by decide
  refine lv_if_ne (tgt := 16) hx hb dX8_register_11 (by decide) (fun c_3 => ?_) (fun c_3 => ?_)
  · rw [if_neg c_3] at hR
    have i_3 := rne c_3
    have b_c_3 := rIW c_3
    refine lv_iload_n hx hb dX8_register_16 rfl (lv_at hl 2 rfl) ?_
    by_cases c_5 : x2 = (0 : Int32)
    · rw [if_pos c_5] at hR
      refine lv_tableIn (tgt := 52) hx hb dX8_register_17 (by rw [c_5]; decide) (by rw [c_5]; decide) (by rw [c_5]; rfl) (by decide) ?_
      have i_5 := congrArg Int32.toInt c_5
      refine lv_aload_n hx hb dX8_register_52 rfl (lv_at hl 0 rfl) ?_
      refine o_get hx hb hts hown hK hW (inMBO_o h_p0) rfl ig8 7 (by decide) fl_X8_57 rfl dX8_register_53 ?_
      refine o_get hx hb hts hown hK hW (inBlk_o h_p0b) rfl ig0 3 (by decide) fl_X8_158 rfl dX8_register_56 ?_
      refine lv_iload_n hx hb dX8_register_59 rfl (lv_at hl 1 rfl) ?_
      refine o_iald hx hb hK hW (inBlk_a0 h_p0b) (vp_in_iff.mpr ⟨by omega, by omega⟩) dX8_register_60 ?_
      subst hR
      exact W.iret (v := ((p0b_0 1) x1.toNatClampNeg)) hx hb hr (fun t ht hW9 => ⟨⟨((p0b_0 1) x1.toNatClampNeg), Ω, rfl, ⟨rfl, rfl⟩, by rw [oB, ht]; exact hW⟩, hS.F ht⟩) hS.2.2 dX8_register_61
    rw [if_neg c_5] at hR
    by_cases c_6 : x2 = (1 : Int32)
    · rw [if_pos c_6] at hR
      refine lv_tableIn (tgt := 62) hx hb dX8_register_17 (by rw [c_6]; decide) (by rw [c_6]; decide) (by rw [c_6]; rfl) (by decide) ?_
      have i_6 := congrArg Int32.toInt c_6
      refine lv_aload_n hx hb dX8_register_62 rfl (lv_at hl 0 rfl) ?_
      refine o_get hx hb hts hown hK hW (inMBO_o h_p0) rfl ig8 7 (by decide) fl_X8_57 rfl dX8_register_63 ?_
      refine o_get hx hb hts hown hK hW (inBlk_o h_p0b) rfl ig0 4 (by decide) fl_X8_161 rfl dX8_register_66 ?_
      refine lv_iload_n hx hb dX8_register_69 rfl (lv_at hl 1 rfl) ?_
      refine o_iald hx hb hK hW (inBlk_a1 h_p0b) (vp_in_iff.mpr ⟨by omega, by omega⟩) dX8_register_70 ?_
      subst hR
      exact W.iret (v := ((p0b_0 2) x1.toNatClampNeg)) hx hb hr (fun t ht hW9 => ⟨⟨((p0b_0 2) x1.toNatClampNeg), Ω, rfl, ⟨rfl, rfl⟩, by rw [oB, ht]; exact hW⟩, hS.F ht⟩) hS.2.2 dX8_register_71
    rw [if_neg c_6] at hR
    by_cases c_7 : x2 = (2 : Int32)
    · rw [if_pos c_7] at hR
      refine lv_tableIn (tgt := 72) hx hb dX8_register_17 (by rw [c_7]; decide) (by rw [c_7]; decide) (by rw [c_7]; rfl) (by decide) ?_
      have i_7 := congrArg Int32.toInt c_7
      refine lv_aload_n hx hb dX8_register_72 rfl (lv_at hl 0 rfl) ?_
      refine o_get hx hb hts hown hK hW (inMBO_o h_p0) rfl ig8 7 (by decide) fl_X8_57 rfl dX8_register_73 ?_
      refine o_get hx hb hts hown hK hW (inBlk_o h_p0b) rfl ig0 5 (by decide) fl_X8_164 rfl dX8_register_76 ?_
      refine lv_iload_n hx hb dX8_register_79 rfl (lv_at hl 1 rfl) ?_
      refine o_iald hx hb hK hW (inBlk_a2 h_p0b) (vp_in_iff.mpr ⟨by omega, by omega⟩) dX8_register_80 ?_
      subst hR
      exact W.iret (v := ((p0b_0 3) x1.toNatClampNeg)) hx hb hr (fun t ht hW9 => ⟨⟨((p0b_0 3) x1.toNatClampNeg), Ω, rfl, ⟨rfl, rfl⟩, by rw [oB, ht]; exact hW⟩, hS.F ht⟩) hS.2.2 dX8_register_81
    rw [if_neg c_7] at hR
    by_cases c_8 : x2 = (3 : Int32)
    · rw [if_pos c_8] at hR
      refine lv_tableIn (tgt := 82) hx hb dX8_register_17 (by rw [c_8]; decide) (by rw [c_8]; decide) (by rw [c_8]; rfl) (by decide) ?_
      have i_8 := congrArg Int32.toInt c_8
      refine lv_aload_n hx hb dX8_register_82 rfl (lv_at hl 0 rfl) ?_
      refine o_get hx hb hts hown hK hW (inMBO_o h_p0) rfl ig8 2 (by decide) fl_X8_28 rfl dX8_register_83 ?_
      refine o_get hx hb hts hown hK hW (inSitO_o h_p0n) rfl ig5 0 (by decide) fl_X8_117 rfl dX8_register_86 ?_
      refine lv_aload_n hx hb dX8_register_89 rfl (lv_at hl 0 rfl) ?_
      refine o_get hx hb hts hown hK hW (inMBO_o h_p0) rfl ig8 7 (by decide) fl_X8_57 rfl dX8_register_90 ?_
      refine lv_iload_n hx hb dX8_register_93 rfl (lv_at hl 1 rfl) ?_
      refine o_ViR (rest := []) (As := [.ref p0b, .int x1]) (n := 2) hx hb hml hown hts hK hN hZ hW hS hA (c_X1_isLocked l G A Ω (p0 + 19) p0b p0nd_0 p0nd_1 p0nd_2 p0nd_3 p0b_0 x1 hB_p0b (by omega) h_p0nd h_p0b) (inDev_o h_p0nd) rfl (good_V ml_X8_167 im_X1_isLocked se_X1_isLocked ini_X1 co_X1_isLocked) (by decide +kernel) ⟨Nat.zero_le _, Nat.zero_le _⟩ hl.1 (Nat.le_of_ble_eq_true rfl) rfl rfl dX8_register_94 (fun r H locs hp hW hS => ?_)
      obtain ⟨rfl, hz_9⟩ := hp
      refine lv_if_eq (tgt := 104) hx hb dX8_register_97 (by decide) (fun c_10 => ?_) (fun c_10 => ?_)
      · rw [if_pos c_10] at hR
        have i_10 := congrArg Int32.toInt c_10
        refine lv_iconst (v := (0 : Int32)) hx hb dX8_register_104 (by decide) ?_
        subst hR
        exact W.iret (v := (0 : Int32)) hx hb hr (fun t ht hW9 => ⟨⟨(0 : Int32), Ω, rfl, ⟨rfl, rfl⟩, by rw [oB, ht]; exact hW⟩, hS.F ht⟩) hS.2.2 dX8_register_105
      · rw [if_neg c_10] at hR
        have i_10 := rne c_10
        refine lv_iconst (v := (1 : Int32)) hx hb dX8_register_100 (by decide) ?_
        refine lv_goto (tgt := 105) hx hb dX8_register_101 (by decide) ?_
        subst hR
        exact W.iret (v := (1 : Int32)) hx hb hr (fun t ht hW9 => ⟨⟨(1 : Int32), Ω, rfl, ⟨rfl, rfl⟩, by rw [oB, ht]; exact hW⟩, hS.F ht⟩) hS.2.2 dX8_register_105
    rw [if_neg c_8] at hR
    by_cases c_11 : x2 = (4 : Int32)
    · rw [if_pos c_11] at hR
      refine lv_tableIn (tgt := 106) hx hb dX8_register_17 (by rw [c_11]; decide) (by rw [c_11]; decide) (by rw [c_11]; rfl) (by decide) ?_
      have i_11 := congrArg Int32.toInt c_11
      refine lv_aload_n hx hb dX8_register_106 rfl (lv_at hl 0 rfl) ?_
      refine o_get hx hb hts hown hK hW (inMBO_o h_p0) rfl ig8 2 (by decide) fl_X8_28 rfl dX8_register_107 ?_
      refine o_get hx hb hts hown hK hW (inSitO_o h_p0n) rfl ig5 0 (by decide) fl_X8_117 rfl dX8_register_110 ?_
      refine o_get hx hb hts hown hK hW (inDev_o h_p0nd) rfl ig1 1 (by decide) fl_X8_171 rfl dX8_register_113 ?_
      refine lv_iload_n hx hb dX8_register_116 rfl (lv_at hl 1 rfl) ?_
      refine o_iald hx hb hK hW (inDev_a1 h_p0nd) (vp_in_iff.mpr ⟨by omega, by omega⟩) dX8_register_117 ?_
      subst hR
      exact W.iret (v := (p0nd_1 x1.toNatClampNeg)) hx hb hr (fun t ht hW9 => ⟨⟨(p0nd_1 x1.toNatClampNeg), Ω, rfl, ⟨rfl, rfl⟩, by rw [oB, ht]; exact hW⟩, hS.F ht⟩) hS.2.2 dX8_register_118
    rw [if_neg c_11] at hR
    have i_5 := lv_neT c_5 (a := 0) rfl
    have i_6 := lv_neT c_6 (a := 1) rfl
    have i_7 := lv_neT c_7 (a := 2) rfl
    have i_8 := lv_neT c_8 (a := 3) rfl
    have i_11 := lv_neT c_11 (a := 4) rfl
    refine lv_tableOut (tgt := 119) hx hb dX8_register_17 (by omega) (by decide) ?_
    refine lv_iconst (v := (-1 : Int32)) hx hb dX8_register_119 (by decide) ?_
    subst hR
    exact W.iret (v := (-1 : Int32)) hx hb hr (fun t ht hW9 => ⟨⟨(-1 : Int32), Ω, rfl, ⟨rfl, rfl⟩, by rw [oB, ht]; exact hW⟩, hS.F ht⟩) hS.2.2 dX8_register_120
  · rw [if_pos c_3] at hR
    have i_3 := congrArg Int32.toInt c_3
    refine lv_iconst (v := (-1 : Int32)) hx hb dX8_register_14 (by decide) ?_
    subst hR
    exact W.iret (v := (-1 : Int32)) hx hb hr (fun t ht hW9 => ⟨⟨(-1 : Int32), Ω, rfl, ⟨rfl, rfl⟩, by rw [oB, ht]; exact hW⟩, hS.F ht⟩) hS.2.2 dX8_register_15
set_option maxHeartbeats 4000000 in
set_option maxRecDepth 100000 in
theorem c_X8_alias (l : Launch) (G : Gm) (A : Nat → Prop) (Ω : Om) (p0 : Nat) (p0b : Nat) (p0pb : Nat) (p0b_0 : Blk) (x1 : Int32) (x2 : Int32) (hbo : (p0b = p0 + 4 ∧ p0pb = p0 + 132) ∨ (p0b = p0 + 132 ∧ p0pb = p0 + 4)) (hB_p0b : BlkInv p0b_0) (h_p0 : inMBO G Ω p0 p0b) (h_p0b : inBlk G Ω p0b p0b_0) : Met l yX8_alias (wz yX8_alias cX8_alias 3 (some .int)) ({ frames := 1, cells := 0, slots := 0, locals := 21 } : Room) (va_Pc [.ref p0, .int x1, .int x2] (oS G A Ω)) (va_Qi (fun (r : Int32) (Ω1 : Om) => r = (f_X8_alias p0b_0 x1 x2) ∧ Ω1 = Ω) (oB G A) A) 0 0 A := by
  refine Met.ofW (cc := cX8_alias) (maxL := 3) (ret := (some .int)) (by decide) rfl ?_
  intro p e s m args below meth c s₁ B hml hv
  obtain ⟨rfl, hW, hK, hN, hZ⟩ := hv
  have hx := B.exec
  have hb := B.bytes
  have hr := B.returns
  have hts : ∀ w ∈ gt, w.before _ s = true := fun w hw => atoms_spec (ws := wz yX8_alias cX8_alias 3 (some .int)) B.pre w (List.mem_cons_of_mem _ hw)
  have hown : s.vm.findClass RX8 = some m.cls := findClass_of_methodNamed B.named
  have hlocks := B.notSynchronized
  have hA : ∀ q, A q → A q := fun _ h => h
  have hS : va_S A s.heap s.heap [] := va_S.rf
  have hS0 := hS
  have hl := lv_entry ([.ref p0, .int x1, .int x2]) (n := 3) (Nat.le_of_ble_eq_true rfl)
  rw [lg_entry_eq]
  generalize (lg_sl ([.ref p0, .int x1, .int x2]) ++ List.replicate (3 - (lg_sl ([.ref p0, .int x1, .int x2])).length) Slot.unset).toArray = ls at hl ⊢
  have hl : lv_has ls 3 [(0, .ref p0), (1, .int x1), (2, .int x2)] := hl
  generalize hR : (f_X8_alias p0b_0 x1 x2) = R
  rw [f_X8_alias] at hR
  refine lv_iload_n hx hb dX8_alias_0 rfl (lv_at hl 1 rfl) ?_
  refine lv_aload_n hx hb dX8_alias_1 rfl (lv_at hl 0 rfl) ?_
  refine o_get hx hb hts hown hK hW (inMBO_o h_p0) rfl ig8 7 (by decide) fl_X8_57 rfl dX8_alias_2 ?_
  refine o_get hx hb hts hown hK hW (inBlk_o h_p0b) rfl ig0 2 (by decide) fl_X8_174 rfl dX8_alias_5 ?_
  try have j_1 : 0 ≤ (p0b_0 0 2).toInt ∧ (p0b_0 0 2).toInt ≤ 4 := BI_als (by assumption)
  refine o_SiR (rest := []) (As := [.int x1, .int (p0b_0 0 2)]) (n := 2) hx hb hml hown hts hK hN hZ hW hS hA (c_X8_isWithin l G A Ω x1 (p0b_0 0 2)) ml_X8_61 st_X8_isWithin ini_X8 co_X8_isWithin (by decide +kernel) ⟨Nat.zero_le _, Nat.zero_le _⟩ hl.1 (Nat.le_of_ble_eq_true rfl) rfl rfl dX8_alias_8 (fun r H locs hp hW hS => ?_)
  obtain ⟨rfl, hz_2⟩ := hp
  have j_4 : (0 : Int32).toInt = 0 := by decide
  refine lv_if_ne (tgt := 16) hx hb dX8_alias_11 (by decide) (fun c_3 => ?_) (fun c_3 => ?_)
  · rw [if_neg c_3] at hR
    have i_3 := rne c_3
    have b_c_3 := rIW c_3
    refine lv_iload_n hx hb dX8_alias_16 rfl (lv_at hl 2 rfl) ?_
    by_cases c_5 : x2 = (0 : Int32)
    · rw [if_pos c_5] at hR
      refine lv_tableIn (tgt := 44) hx hb dX8_alias_17 (by rw [c_5]; decide) (by rw [c_5]; decide) (by rw [c_5]; rfl) (by decide) ?_
      have i_5 := congrArg Int32.toInt c_5
      refine lv_aload_n hx hb dX8_alias_44 rfl (lv_at hl 0 rfl) ?_
      refine o_get hx hb hts hown hK hW (inMBO_o h_p0) rfl ig8 7 (by decide) fl_X8_57 rfl dX8_alias_45 ?_
      refine o_get hx hb hts hown hK hW (inBlk_o h_p0b) rfl ig0 12 (by decide) fl_X8_177 rfl dX8_alias_48 ?_
      refine lv_iload_n hx hb dX8_alias_51 rfl (lv_at hl 1 rfl) ?_
      refine o_iald hx hb hK hW (inBlk_a9 h_p0b) (vp_in_iff.mpr ⟨by omega, by omega⟩) dX8_alias_52 ?_
      subst hR
      exact W.iret (v := ((p0b_0 10) x1.toNatClampNeg)) hx hb hr (fun t ht hW9 => ⟨⟨((p0b_0 10) x1.toNatClampNeg), Ω, rfl, ⟨rfl, rfl⟩, by rw [oB, ht]; exact hW⟩, hS.F ht⟩) hS.2.2 dX8_alias_53
    rw [if_neg c_5] at hR
    by_cases c_6 : x2 = (1 : Int32)
    · rw [if_pos c_6] at hR
      refine lv_tableIn (tgt := 54) hx hb dX8_alias_17 (by rw [c_6]; decide) (by rw [c_6]; decide) (by rw [c_6]; rfl) (by decide) ?_
      have i_6 := congrArg Int32.toInt c_6
      refine lv_aload_n hx hb dX8_alias_54 rfl (lv_at hl 0 rfl) ?_
      refine o_get hx hb hts hown hK hW (inMBO_o h_p0) rfl ig8 7 (by decide) fl_X8_57 rfl dX8_alias_55 ?_
      refine o_get hx hb hts hown hK hW (inBlk_o h_p0b) rfl ig0 13 (by decide) fl_X8_180 rfl dX8_alias_58 ?_
      refine lv_iload_n hx hb dX8_alias_61 rfl (lv_at hl 1 rfl) ?_
      refine o_iald hx hb hK hW (inBlk_a10 h_p0b) (vp_in_iff.mpr ⟨by omega, by omega⟩) dX8_alias_62 ?_
      subst hR
      exact W.iret (v := ((p0b_0 11) x1.toNatClampNeg)) hx hb hr (fun t ht hW9 => ⟨⟨((p0b_0 11) x1.toNatClampNeg), Ω, rfl, ⟨rfl, rfl⟩, by rw [oB, ht]; exact hW⟩, hS.F ht⟩) hS.2.2 dX8_alias_63
    rw [if_neg c_6] at hR
    by_cases c_7 : x2 = (2 : Int32)
    · rw [if_pos c_7] at hR
      refine lv_tableIn (tgt := 64) hx hb dX8_alias_17 (by rw [c_7]; decide) (by rw [c_7]; decide) (by rw [c_7]; rfl) (by decide) ?_
      have i_7 := congrArg Int32.toInt c_7
      refine lv_aload_n hx hb dX8_alias_64 rfl (lv_at hl 0 rfl) ?_
      refine o_get hx hb hts hown hK hW (inMBO_o h_p0) rfl ig8 7 (by decide) fl_X8_57 rfl dX8_alias_65 ?_
      refine o_get hx hb hts hown hK hW (inBlk_o h_p0b) rfl ig0 14 (by decide) fl_X8_183 rfl dX8_alias_68 ?_
      refine lv_iload_n hx hb dX8_alias_71 rfl (lv_at hl 1 rfl) ?_
      refine o_iald hx hb hK hW (inBlk_a11 h_p0b) (vp_in_iff.mpr ⟨by omega, by omega⟩) dX8_alias_72 ?_
      subst hR
      exact W.iret (v := ((p0b_0 12) x1.toNatClampNeg)) hx hb hr (fun t ht hW9 => ⟨⟨((p0b_0 12) x1.toNatClampNeg), Ω, rfl, ⟨rfl, rfl⟩, by rw [oB, ht]; exact hW⟩, hS.F ht⟩) hS.2.2 dX8_alias_73
    rw [if_neg c_7] at hR
    have i_5 := lv_neT c_5 (a := 0) rfl
    have i_6 := lv_neT c_6 (a := 1) rfl
    have i_7 := lv_neT c_7 (a := 2) rfl
    refine lv_tableOut (tgt := 74) hx hb dX8_alias_17 (by omega) (by decide) ?_
    refine lv_iconst (v := (-1 : Int32)) hx hb dX8_alias_74 (by decide) ?_
    subst hR
    exact W.iret (v := (-1 : Int32)) hx hb hr (fun t ht hW9 => ⟨⟨(-1 : Int32), Ω, rfl, ⟨rfl, rfl⟩, by rw [oB, ht]; exact hW⟩, hS.F ht⟩) hS.2.2 dX8_alias_75
  · rw [if_pos c_3] at hR
    have i_3 := congrArg Int32.toInt c_3
    refine lv_iconst (v := (-1 : Int32)) hx hb dX8_alias_14 (by decide) ?_
    subst hR
    exact W.iret (v := (-1 : Int32)) hx hb hr (fun t ht hW9 => ⟨⟨(-1 : Int32), Ω, rfl, ⟨rfl, rfl⟩, by rw [oB, ht]; exact hW⟩, hS.F ht⟩) hS.2.2 dX8_alias_15
set_option maxHeartbeats 4000000 in
set_option maxRecDepth 100000 in
theorem c_X8_at (l : Launch) (G : Gm) (A : Nat → Prop) (Ω : Om) (p0 : Nat) (p0b : Nat) (p0pb : Nat) (p0b_0 : Blk) (x1 : Int32) (hbo : (p0b = p0 + 4 ∧ p0pb = p0 + 132) ∨ (p0b = p0 + 132 ∧ p0pb = p0 + 4)) (hB_p0b : BlkInv p0b_0) (h_p0 : inMBO G Ω p0 p0b) (h_p0b : inBlk G Ω p0b p0b_0) : Met l yX8_at (wz yX8_at cX8_at 3 (some .int)) ({ frames := 2, cells := 0, slots := 0, locals := 44 } : Room) (va_Pc [.ref p0, .int x1] (oS G A Ω)) (va_Qi (fun (r : Int32) (Ω1 : Om) => r = (f_X8_at p0b_0 x1) ∧ Ω1 = Ω) (oB G A) A) 0 0 A := by
  refine Met.ofW (cc := cX8_at) (maxL := 3) (ret := (some .int)) (by decide) rfl ?_
  intro p e s m args below meth c s₁ B hml hv
  obtain ⟨rfl, hW, hK, hN, hZ⟩ := hv
  have hx := B.exec
  have hb := B.bytes
  have hr := B.returns
  have hts : ∀ w ∈ gt, w.before _ s = true := fun w hw => atoms_spec (ws := wz yX8_at cX8_at 3 (some .int)) B.pre w (List.mem_cons_of_mem _ hw)
  have hown : s.vm.findClass RX8 = some m.cls := findClass_of_methodNamed B.named
  have hlocks := B.notSynchronized
  have hA : ∀ q, A q → A q := fun _ h => h
  have hS : va_S A s.heap s.heap [] := va_S.rf
  have hS0 := hS
  have hl := lv_entry ([.ref p0, .int x1]) (n := 3) (Nat.le_of_ble_eq_true rfl)
  rw [lg_entry_eq]
  generalize (lg_sl ([.ref p0, .int x1]) ++ List.replicate (3 - (lg_sl ([.ref p0, .int x1])).length) Slot.unset).toArray = ls at hl ⊢
  have hl : lv_has ls 3 [(0, .ref p0), (1, .int x1)] := hl
  generalize hR : (f_X8_at p0b_0 x1) = R
  rw [f_X8_at] at hR
  refine lv_iload_n hx hb dX8_at_0 rfl (lv_at hl 1 rfl) ?_
  refine lv_bipush (v := (16 : Int32)) hx hb dX8_at_1 (by decide) ?_
  have j_1 : (16 : Int32).toInt = 16 := by decide
  refine o_SiR (rest := []) (As := [.int x1, .int (16 : Int32)]) (n := 2) hx hb hml hown hts hK hN hZ hW hS hA (c_X8_isWithin l G A Ω x1 (16 : Int32)) ml_X8_61 st_X8_isWithin ini_X8 co_X8_isWithin (by decide +kernel) ⟨Nat.zero_le _, Nat.zero_le _⟩ hl.1 (Nat.le_of_ble_eq_true rfl) rfl rfl dX8_at_3 (fun r H locs hp hW hS => ?_)
  obtain ⟨rfl, hz_2⟩ := hp
  have j_4 : (0 : Int32).toInt = 0 := by decide
  refine lv_if_ne (tgt := 11) hx hb dX8_at_6 (by decide) (fun c_3 => ?_) (fun c_3 => ?_)
  · rw [if_neg c_3] at hR
    have i_3 := rne c_3
    have b_c_3 := rIW c_3
    refine lv_aload_n hx hb dX8_at_11 rfl (lv_at hl 0 rfl) ?_
    refine o_get hx hb hts hown hK hW (inMBO_o h_p0) rfl ig8 7 (by decide) fl_X8_57 rfl dX8_at_12 ?_
    refine lv_iload_n hx hb dX8_at_15 rfl (lv_at hl 1 rfl) ?_
    refine o_ViR (rest := []) (As := [.int x1]) (n := 1) hx hb hml hown hts hK hN hZ hW hS hA (c_X0_aliasAt l G A Ω p0b p0b_0 x1 hB_p0b h_p0b) (inBlk_o h_p0b) rfl (good_V ml_X8_186 im_X0_aliasAt se_X0_aliasAt ini_X0 co_X0_aliasAt) (by decide +kernel) ⟨Nat.zero_le _, Nat.zero_le _⟩ hl.1 (Nat.le_of_ble_eq_true rfl) rfl rfl dX8_at_16 (fun r H locs hp hW hS => ?_)
    subst hp
    refine lv_istore_n (lv' := [(2, .int (f_X0_aliasAt p0b_0 x1)), (0, .ref p0), (1, .int x1)]) hx hb dX8_at_19 rfl hl (by decide) rfl (fun ls hl => ?_)
    refine lv_iload_n hx hb dX8_at_20 rfl (lv_at hl 0 rfl) ?_
    refine lv_bipush (v := (-9 : Int32)) hx hb dX8_at_21 (by decide) ?_
    try have j_7 : (f_X0_aliasAt p0b_0 x1).toInt = -9 ∨ (0 ≤ (f_X0_aliasAt p0b_0 x1).toInt ∧ (f_X0_aliasAt p0b_0 x1).toInt < 4) := R_aliasAt hB_p0b _
    have j_8 : (-9 : Int32).toInt = -9 := by decide
    refine lv_icmp_ne (tgt := 37) hx hb dX8_at_23 (by decide) (fun c_6 => ?_) (fun c_6 => ?_)
    · rw [if_neg c_6] at hR
      have i_6 := rne c_6
      refine lv_bipush (v := (100 : Int32)) hx hb dX8_at_37 (by decide) ?_
      refine lv_iload_n hx hb dX8_at_39 rfl (lv_at hl 0 rfl) ?_
      refine lv_iadd hx hb dX8_at_40 ?_
      subst hR
      exact W.iret (v := ((100 : Int32) + (f_X0_aliasAt p0b_0 x1))) hx hb hr (fun t ht hW9 => ⟨⟨((100 : Int32) + (f_X0_aliasAt p0b_0 x1)), Ω, rfl, ⟨rfl, rfl⟩, by rw [oB, ht]; exact hW⟩, hS.F ht⟩) hS.2.2 dX8_at_41
    · rw [if_pos c_6] at hR
      have i_6 := congrArg Int32.toInt c_6
      refine lv_aload_n hx hb dX8_at_26 rfl (lv_at hl 1 rfl) ?_
      refine o_get hx hb hts hown hK hW (inMBO_o h_p0) rfl ig8 7 (by decide) fl_X8_57 rfl dX8_at_27 ?_
      refine lv_iload_n hx hb dX8_at_30 rfl (lv_at hl 2 rfl) ?_
      refine o_ViR (rest := []) (As := [.int x1]) (n := 1) hx hb hml hown hts hK hN hZ hW hS hA (c_X0_registerAt l G A Ω p0b p0b_0 x1 hB_p0b h_p0b) (inBlk_o h_p0b) rfl (good_V ml_X8_190 im_X0_registerAt se_X0_registerAt ini_X0 co_X0_registerAt) (by decide +kernel) ⟨Nat.zero_le _, Nat.zero_le _⟩ hl.1 (Nat.le_of_ble_eq_true rfl) rfl rfl dX8_at_31 (fun r H locs hp hW hS => ?_)
      subst hp
      refine lv_goto (tgt := 41) hx hb dX8_at_34 (by decide) ?_
      subst hR
      exact W.iret (v := (f_X0_registerAt p0b_0 x1)) hx hb hr (fun t ht hW9 => ⟨⟨(f_X0_registerAt p0b_0 x1), Ω, rfl, ⟨rfl, rfl⟩, by rw [oB, ht]; exact hW⟩, hS.F ht⟩) hS.2.2 dX8_at_41
  · rw [if_pos c_3] at hR
    have i_3 := congrArg Int32.toInt c_3
    refine lv_iconst (v := (-1 : Int32)) hx hb dX8_at_9 (by decide) ?_
    subst hR
    exact W.iret (v := (-1 : Int32)) hx hb hr (fun t ht hW9 => ⟨⟨(-1 : Int32), Ω, rfl, ⟨rfl, rfl⟩, by rw [oB, ht]; exact hW⟩, hS.F ht⟩) hS.2.2 dX8_at_10
set_option maxHeartbeats 4000000 in
set_option maxRecDepth 100000 in
theorem c_X8_peek (l : Launch) (G : Gm) (A : Nat → Prop) (Ω : Om) (p0 : Nat) (p0b : Nat) (p0pb : Nat) (p0n_0 : Int32) (p0n_1 : Int32) (p0nd_0 : Fn) (p0nd_1 : Fn) (p0nd_2 : Fn) (p0nd_3 : Fn) (p0nm_0 : Fn) (p0nm_1 : Fn) (p0nm_2 : Fn) (p0nm_3 : Fn) (p0b_0 : Blk) (x1 : Int32) (x2 : Int32) (hbo : (p0b = p0 + 4 ∧ p0pb = p0 + 132) ∨ (p0b = p0 + 132 ∧ p0pb = p0 + 4)) (hB_p0b : BlkInv p0b_0) (h_p0 : inMBO G Ω p0 p0b) (h_p0n : inSitO G Ω (p0 + 18) p0n_0 p0n_1) (h_p0nd : inDev G Ω (p0 + 19) p0nd_0 p0nd_1 p0nd_2 p0nd_3) (h_p0nm : inDev G Ω (p0 + 24) p0nm_0 p0nm_1 p0nm_2 p0nm_3) (h_p0b : inBlk G Ω p0b p0b_0) : Met l yX8_peek (wz yX8_peek cX8_peek 3 (some .int)) ({ frames := 4, cells := 0, slots := 0, locals := 89 } : Room) (va_Pc [.ref p0, .int x1, .int x2] (oS G A Ω)) (va_Qi (fun (r : Int32) (Ω1 : Om) => r = (f_X8_peek p0nd_0 p0nd_3 p0nm_0 p0nm_3 p0b_0 x1 x2) ∧ Ω1 = Ω) (oB G A) A) 0 0 A := by
  refine Met.ofW (cc := cX8_peek) (maxL := 3) (ret := (some .int)) (by decide) rfl ?_
  intro p e s m args below meth c s₁ B hml hv
  obtain ⟨rfl, hW, hK, hN, hZ⟩ := hv
  have hx := B.exec
  have hb := B.bytes
  have hr := B.returns
  have hts : ∀ w ∈ gt, w.before _ s = true := fun w hw => atoms_spec (ws := wz yX8_peek cX8_peek 3 (some .int)) B.pre w (List.mem_cons_of_mem _ hw)
  have hown : s.vm.findClass RX8 = some m.cls := findClass_of_methodNamed B.named
  have hlocks := B.notSynchronized
  have hA : ∀ q, A q → A q := fun _ h => h
  have hS : va_S A s.heap s.heap [] := va_S.rf
  have hS0 := hS
  have hl := lv_entry ([.ref p0, .int x1, .int x2]) (n := 3) (Nat.le_of_ble_eq_true rfl)
  rw [lg_entry_eq]
  generalize (lg_sl ([.ref p0, .int x1, .int x2]) ++ List.replicate (3 - (lg_sl ([.ref p0, .int x1, .int x2])).length) Slot.unset).toArray = ls at hl ⊢
  have hl : lv_has ls 3 [(0, .ref p0), (1, .int x1), (2, .int x2)] := hl
  generalize hR : (f_X8_peek p0nd_0 p0nd_3 p0nm_0 p0nm_3 p0b_0 x1 x2) = R
  rw [f_X8_peek] at hR
  refine lv_iload_n hx hb dX8_peek_0 rfl (lv_at hl 1 rfl) ?_
  refine lv_bipush (v := (16 : Int32)) hx hb dX8_peek_1 (by decide) ?_
  have j_1 : (16 : Int32).toInt = 16 := by decide
  refine o_SiR (rest := []) (As := [.int x1, .int (16 : Int32)]) (n := 2) hx hb hml hown hts hK hN hZ hW hS hA (c_X8_isWithin l G A Ω x1 (16 : Int32)) ml_X8_61 st_X8_isWithin ini_X8 co_X8_isWithin (by decide +kernel) ⟨Nat.zero_le _, Nat.zero_le _⟩ hl.1 (Nat.le_of_ble_eq_true rfl) rfl rfl dX8_peek_3 (fun r H locs hp hW hS => ?_)
  obtain ⟨rfl, hz_2⟩ := hp
  have j_4 : (0 : Int32).toInt = 0 := by decide
  refine lv_if_eq (tgt := 17) hx hb dX8_peek_6 (by decide) (fun c_3 => ?_) (fun c_3 => ?_)
  · rw [if_pos c_3] at hR
    have i_3 := congrArg Int32.toInt c_3
    refine lv_iconst (v := (-1 : Int32)) hx hb dX8_peek_17 (by decide) ?_
    subst hR
    exact W.iret (v := (-1 : Int32)) hx hb hr (fun t ht hW9 => ⟨⟨(-1 : Int32), Ω, rfl, ⟨rfl, rfl⟩, by rw [oB, ht]; exact hW⟩, hS.F ht⟩) hS.2.2 dX8_peek_18
  · rw [if_neg c_3] at hR
    have i_3 := rne c_3
    have b_c_3 := rIW c_3
    refine lv_iload_n hx hb dX8_peek_9 rfl (lv_at hl 2 rfl) ?_
    refine lv_iconst (v := (2 : Int32)) hx hb dX8_peek_10 (by decide) ?_
    have j_5 : (2 : Int32).toInt = 2 := by decide
    refine o_SiR (rest := []) (As := [.int x2, .int (2 : Int32)]) (n := 2) hx hb hml hown hts hK hN hZ hW hS hA (c_X8_isWithin l G A Ω x2 (2 : Int32)) ml_X8_61 st_X8_isWithin ini_X8 co_X8_isWithin (by decide +kernel) ⟨Nat.zero_le _, Nat.zero_le _⟩ hl.1 (Nat.le_of_ble_eq_true rfl) rfl rfl dX8_peek_11 (fun r H locs hp hW hS => ?_)
    obtain ⟨rfl, hz_6⟩ := hp
    refine lv_if_ne (tgt := 19) hx hb dX8_peek_14 (by decide) (fun c_7 => ?_) (fun c_7 => ?_)
    · rw [if_neg c_7] at hR
      have i_7 := rne c_7
      have b_c_7 := rIW c_7
      refine lv_iload_n hx hb dX8_peek_19 rfl (lv_at hl 2 rfl) ?_
      refine lv_if_ne (tgt := 41) hx hb dX8_peek_20 (by decide) (fun c_8 => ?_) (fun c_8 => ?_)
      · rw [if_neg c_8] at hR
        have i_8 := rne c_8
        refine lv_aload_n hx hb dX8_peek_41 rfl (lv_at hl 0 rfl) ?_
        refine o_get hx hb hts hown hK hW (inMBO_o h_p0) rfl ig8 2 (by decide) fl_X8_28 rfl dX8_peek_42 ?_
        refine o_get hx hb hts hown hK hW (inSitO_o h_p0n) rfl ig5 1 (by decide) fl_X8_152 rfl dX8_peek_45 ?_
        refine lv_aload_n hx hb dX8_peek_48 rfl (lv_at hl 0 rfl) ?_
        refine o_get hx hb hts hown hK hW (inMBO_o h_p0) rfl ig8 7 (by decide) fl_X8_57 rfl dX8_peek_49 ?_
        refine lv_iload_n hx hb dX8_peek_52 rfl (lv_at hl 1 rfl) ?_
        refine o_ViR (rest := []) (As := [.ref p0b, .int x1]) (n := 2) hx hb hml hown hts hK hN hZ hW hS hA (c_X1_look l G A Ω (p0 + 24) p0b p0nm_0 p0nm_1 p0nm_2 p0nm_3 p0b_0 x1 hB_p0b h_p0nm h_p0b) (inDev_o h_p0nm) rfl (good_V ml_X8_193 im_X1_look se_X1_look ini_X1 co_X1_look) (by decide +kernel) ⟨Nat.zero_le _, Nat.zero_le _⟩ hl.1 (Nat.le_of_ble_eq_true rfl) rfl rfl dX8_peek_53 (fun r H locs hp hW hS => ?_)
        subst hp
        subst hR
        exact W.iret (v := (f_X1_look p0nm_0 p0nm_3 p0b_0 x1)) hx hb hr (fun t ht hW9 => ⟨⟨(f_X1_look p0nm_0 p0nm_3 p0b_0 x1), Ω, rfl, ⟨rfl, rfl⟩, by rw [oB, ht]; exact hW⟩, hS.F ht⟩) hS.2.2 dX8_peek_56
      · rw [if_pos c_8] at hR
        have i_8 := congrArg Int32.toInt c_8
        refine lv_aload_n hx hb dX8_peek_23 rfl (lv_at hl 0 rfl) ?_
        refine o_get hx hb hts hown hK hW (inMBO_o h_p0) rfl ig8 2 (by decide) fl_X8_28 rfl dX8_peek_24 ?_
        refine o_get hx hb hts hown hK hW (inSitO_o h_p0n) rfl ig5 0 (by decide) fl_X8_117 rfl dX8_peek_27 ?_
        refine lv_aload_n hx hb dX8_peek_30 rfl (lv_at hl 0 rfl) ?_
        refine o_get hx hb hts hown hK hW (inMBO_o h_p0) rfl ig8 7 (by decide) fl_X8_57 rfl dX8_peek_31 ?_
        refine lv_iload_n hx hb dX8_peek_34 rfl (lv_at hl 1 rfl) ?_
        refine o_ViR (rest := []) (As := [.ref p0b, .int x1]) (n := 2) hx hb hml hown hts hK hN hZ hW hS hA (c_X1_look l G A Ω (p0 + 19) p0b p0nd_0 p0nd_1 p0nd_2 p0nd_3 p0b_0 x1 hB_p0b h_p0nd h_p0b) (inDev_o h_p0nd) rfl (good_V ml_X8_193 im_X1_look se_X1_look ini_X1 co_X1_look) (by decide +kernel) ⟨Nat.zero_le _, Nat.zero_le _⟩ hl.1 (Nat.le_of_ble_eq_true rfl) rfl rfl dX8_peek_35 (fun r H locs hp hW hS => ?_)
        subst hp
        refine lv_goto (tgt := 56) hx hb dX8_peek_38 (by decide) ?_
        subst hR
        exact W.iret (v := (f_X1_look p0nd_0 p0nd_3 p0b_0 x1)) hx hb hr (fun t ht hW9 => ⟨⟨(f_X1_look p0nd_0 p0nd_3 p0b_0 x1), Ω, rfl, ⟨rfl, rfl⟩, by rw [oB, ht]; exact hW⟩, hS.F ht⟩) hS.2.2 dX8_peek_56
    · rw [if_pos c_7] at hR
      have i_7 := congrArg Int32.toInt c_7
      refine lv_iconst (v := (-1 : Int32)) hx hb dX8_peek_17 (by decide) ?_
      subst hR
      exact W.iret (v := (-1 : Int32)) hx hb hr (fun t ht hW9 => ⟨⟨(-1 : Int32), Ω, rfl, ⟨rfl, rfl⟩, by rw [oB, ht]; exact hW⟩, hS.F ht⟩) hS.2.2 dX8_peek_18
