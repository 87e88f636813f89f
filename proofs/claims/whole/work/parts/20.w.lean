set_option maxHeartbeats 4000000 in
set_option maxRecDepth 100000 in
theorem c_X8_isWithin (l : Launch) (G : Gm) (A : Nat → Prop) (Ω : Om) (x0 : Int32) (x1 : Int32) : Met l yX8_isWithin (wz yX8_isWithin cX8_isWithin 2 (some .boolean)) ({ frames := 0, cells := 0, slots := 0, locals := 0 } : Room) (va_Pc [.int x0, .int x1] (oS G A Ω)) (va_Qi (fun (r : Int32) (Ω1 : Om) => (r = (f_X8_isWithin x0 x1) ∧ (r = 0 ∨ r = 1)) ∧ Ω1 = Ω) (oB G A) A) 0 0 A := by
  refine Met.ofW (cc := cX8_isWithin) (maxL := 2) (ret := (some .boolean)) (by decide) rfl ?_
  intro p e s m args below meth c s₁ B hml hv
  obtain ⟨rfl, hW, hK, hN, hZ⟩ := hv
  have hx := B.exec
  have hb := B.bytes
  have hr := B.returns
  have hts : ∀ w ∈ gt, w.before _ s = true := fun w hw => atoms_spec (ws := wz yX8_isWithin cX8_isWithin 2 (some .boolean)) B.pre w (List.mem_cons_of_mem _ hw)
  have hown : s.vm.findClass RX8 = some m.cls := findClass_of_methodNamed B.named
  have hlocks := B.notSynchronized
  have hA : ∀ q, A q → A q := fun _ h => h
  have hS : va_S A s.heap s.heap [] := va_S.rf
  have hS0 := hS
  have hl := lv_entry ([.int x0, .int x1]) (n := 2) (Nat.le_of_ble_eq_true rfl)
  rw [lg_entry_eq]
  generalize (lg_sl ([.int x0, .int x1]) ++ List.replicate (2 - (lg_sl ([.int x0, .int x1])).length) Slot.unset).toArray = ls at hl ⊢
  have hl : lv_has ls 2 [(0, .int x0), (1, .int x1)] := hl
  generalize hR : (f_X8_isWithin x0 x1) = R
  rw [f_X8_isWithin] at hR
  refine lv_iload_n hx hb dX8_isWithin_0 rfl (lv_at hl 0 rfl) ?_
  have j_2 : (0 : Int32).toInt = 0 := by decide
  refine lv_if_lt (tgt := 13) hx hb dX8_isWithin_1 (by decide) (fun c_1 => ?_) (fun c_1 => ?_)
  · rw [if_pos c_1] at hR
    have i_1 := rlt c_1
    refine lv_iconst (v := (0 : Int32)) hx hb dX8_isWithin_13 (by decide) ?_
    subst hR
    exact W.zret (v := (0 : Int32)) hx hb hr (nb01 (Or.inl rfl)) (fun t ht hW9 => ⟨⟨(0 : Int32), Ω, rfl, ⟨⟨rfl, (Or.inl rfl)⟩, rfl⟩, by rw [oB, ht]; exact hW⟩, hS.F ht⟩) hS.2.2 dX8_isWithin_14
  · rw [if_neg c_1] at hR
    have i_1 := rnlt c_1
    refine lv_iload_n hx hb dX8_isWithin_4 rfl (lv_at hl 0 rfl) ?_
    refine lv_iload_n hx hb dX8_isWithin_5 rfl (lv_at hl 1 rfl) ?_
    refine lv_icmp_ge (tgt := 13) hx hb dX8_isWithin_6 (by decide) (fun c_3 => ?_) (fun c_3 => ?_)
    · rw [if_pos c_3] at hR
      have i_3 := rle c_3
      refine lv_iconst (v := (0 : Int32)) hx hb dX8_isWithin_13 (by decide) ?_
      subst hR
      exact W.zret (v := (0 : Int32)) hx hb hr (nb01 (Or.inl rfl)) (fun t ht hW9 => ⟨⟨(0 : Int32), Ω, rfl, ⟨⟨rfl, (Or.inl rfl)⟩, rfl⟩, by rw [oB, ht]; exact hW⟩, hS.F ht⟩) hS.2.2 dX8_isWithin_14
    · rw [if_neg c_3] at hR
      have i_3 := rnle c_3
      refine lv_iconst (v := (1 : Int32)) hx hb dX8_isWithin_9 (by decide) ?_
      refine lv_goto (tgt := 14) hx hb dX8_isWithin_10 (by decide) ?_
      subst hR
      exact W.zret (v := (1 : Int32)) hx hb hr (nb01 (Or.inr rfl)) (fun t ht hW9 => ⟨⟨(1 : Int32), Ω, rfl, ⟨⟨rfl, (Or.inr rfl)⟩, rfl⟩, by rw [oB, ht]; exact hW⟩, hS.F ht⟩) hS.2.2 dX8_isWithin_14
set_option maxHeartbeats 4000000 in
set_option maxRecDepth 100000 in
theorem c_X6_append (l : Launch) (G : Gm) (A : Nat → Prop) (Ω : Om) (p0 : Nat) (p0_0 : Fn) (p0_1 : Int32) (x1 : Int32) (hT_p0 : 0 ≤ p0_1.toInt ∧ p0_1.toInt ≤ 160) (h_p0 : inTxt G Ω p0 p0_0 p0_1) : Met l yX6_append (wz yX6_append cX6_append 2 none) ({ frames := 0, cells := 0, slots := 0, locals := 0 } : Room) (va_Pc [.ref p0, .int x1] (oS G A Ω)) (va_Qv (fun (Ω1 : Om) => inTxt G Ω1 p0 ((f_X6_append p0_0 p0_1 x1).1) ((f_X6_append p0_0 p0_1 x1).2) ∧ (∀ q : Nat, (q < p0 ∨ p0 + 2 ≤ q) → Ω1 q = Ω q)) (oB G A) A) 0 0 A := by
  refine Met.ofW (cc := cX6_append) (maxL := 2) (ret := none) (by decide) rfl ?_
  intro p e s m args below meth c s₁ B hml hv
  obtain ⟨rfl, hW, hK, hN, hZ⟩ := hv
  have hx := B.exec
  have hb := B.bytes
  have hr := B.returns
  have hts : ∀ w ∈ gt, w.before _ s = true := fun w hw => atoms_spec (ws := wz yX6_append cX6_append 2 none) B.pre w (List.mem_cons_of_mem _ hw)
  have hown : s.vm.findClass RX6 = some m.cls := findClass_of_methodNamed B.named
  have hlocks := B.notSynchronized
  have hA : ∀ q, A q → A q := fun _ h => h
  have hS : va_S A s.heap s.heap [] := va_S.rf
  have hS0 := hS
  have hl := lv_entry ([.ref p0, .int x1]) (n := 2) (Nat.le_of_ble_eq_true rfl)
  rw [lg_entry_eq]
  generalize (lg_sl ([.ref p0, .int x1]) ++ List.replicate (2 - (lg_sl ([.ref p0, .int x1])).length) Slot.unset).toArray = ls at hl ⊢
  have hl : lv_has ls 2 [(0, .ref p0), (1, .int x1)] := hl
  have hE : ∀ q : Nat, (q < p0 ∨ p0 + 2 ≤ q) → Ω q = Ω q := by intros; rfl
  generalize hR : (f_X6_append p0_0 p0_1 x1) = R
  rw [f_X6_append] at hR
  refine lv_aload_n hx hb dX6_append_0 rfl (lv_at hl 0 rfl) ?_
  refine o_get hx hb hts hown hK hW (inTxt_o h_p0) rfl ig6 1 (by decide) fl_X6_15 rfl dX6_append_1 ?_
  refine lv_sipush (v := (160 : Int32)) hx hb dX6_append_4 (by decide) ?_
  have j_2 : (160 : Int32).toInt = 160 := by decide
  refine lv_icmp_ge (tgt := 30) hx hb dX6_append_7 (by decide) (fun c_1 => ?_) (fun c_1 => ?_)
  · rw [if_pos c_1] at hR
    have i_1 := rle c_1
    subst hR
    exact W.vret hx hb hr (fun t ht hW9 => ⟨⟨Ω, rfl, ⟨h_p0, hE⟩, by rw [oB, ht]; exact hW⟩, hS.F ht⟩) hS.2.2 dX6_append_30
  · rw [if_neg c_1] at hR
    have i_1 := rnle c_1
    refine lv_aload_n hx hb dX6_append_10 rfl (lv_at hl 0 rfl) ?_
    refine o_get hx hb hts hown hK hW (inTxt_o h_p0) rfl ig6 0 (by decide) fl_X6_9 rfl dX6_append_11 ?_
    refine lv_aload_n hx hb dX6_append_14 rfl (lv_at hl 0 rfl) ?_
    refine o_get hx hb hts hown hK hW (inTxt_o h_p0) rfl ig6 1 (by decide) fl_X6_15 rfl dX6_append_15 ?_
    refine lv_iload_n hx hb dX6_append_18 rfl (lv_at hl 1 rfl) ?_
    refine wTxt_0 hx hb hK hW hS hA h_p0 (vp_in_iff.mpr ⟨by omega, by omega⟩) dX6_append_19 (fun Ω_3 H locs h_p0 hF_3 hW hS => ?_)
    have hE : ∀ q : Nat, (q < p0 ∨ p0 + 2 ≤ q) → Ω_3 q = Ω q := fun q g0 => (hF_3 q (by omega)).trans (hE q g0)
    refine lv_aload_n hx hb dX6_append_20 rfl (lv_at hl 0 rfl) ?_
    refine lv_dup hx hb dX6_append_21 rfl ?_
    refine o_get hx hb hts hown hK hW (inTxt_o h_p0) rfl ig6 1 (by decide) fl_X6_15 rfl dX6_append_22 ?_
    refine lv_iconst (v := (1 : Int32)) hx hb dX6_append_25 (by decide) ?_
    refine lv_iadd hx hb dX6_append_26 ?_
    refine vTxt_1 hx hb hts hown hK hW hS hA h_p0 fl_X6_15 dX6_append_27 (fun Ω_4 H locs h_p0 hF_4 hW hS => ?_)
    have hE : ∀ q : Nat, (q < p0 ∨ p0 + 2 ≤ q) → Ω_4 q = Ω q := fun q g0 => (hF_4 q (by omega)).trans (hE q g0)
    subst hR
    exact W.vret hx hb hr (fun t ht hW9 => ⟨⟨Ω_4, rfl, ⟨h_p0, hE⟩, by rw [oB, ht]; exact hW⟩, hS.F ht⟩) hS.2.2 dX6_append_30
set_option maxHeartbeats 4000000 in
set_option maxRecDepth 100000 in
theorem c_X1_putBits (l : Launch) (G : Gm) (A : Nat → Prop) (Ω : Om) (p0 : Nat) (p1 : Nat) (p0_0 : Fn) (p0_1 : Fn) (p0_2 : Fn) (p0_3 : Fn) (p1_0 : Blk) (x2 : Int32) (x3 : Int32) (hd_p0_p1 : p0 + 5 ≤ p1 ∨ p1 + 13 ≤ p0) (hB_p1 : BlkInv p1_0) (hi_x2 : 0 ≤ x2.toInt ∧ x2.toInt < 12) (h_p0 : inDev G Ω p0 p0_0 p0_1 p0_2 p0_3) (h_p1 : inBlk G Ω p1 p1_0) : Met l yX1_putBits (wz yX1_putBits cX1_putBits 5 none) ({ frames := 0, cells := 0, slots := 0, locals := 0 } : Room) (va_Pc [.ref p0, .ref p1, .int x2, .int x3] (oS G A Ω)) (va_Qv (fun (Ω1 : Om) => inDev G Ω1 p0 ((f_X1_putBits p0_0 p1_0 x2 x3)) p0_1 p0_2 p0_3 ∧ (∀ q : Nat, (q < p0 ∨ p0 + 5 ≤ q) → Ω1 q = Ω q)) (oB G A) A) 0 0 A := by
  refine Met.ofW (cc := cX1_putBits) (maxL := 5) (ret := none) (by decide) rfl ?_
  intro p e s m args below meth c s₁ B hml hv
  obtain ⟨rfl, hW, hK, hN, hZ⟩ := hv
  have hx := B.exec
  have hb := B.bytes
  have hr := B.returns
  have hts : ∀ w ∈ gt, w.before _ s = true := fun w hw => atoms_spec (ws := wz yX1_putBits cX1_putBits 5 none) B.pre w (List.mem_cons_of_mem _ hw)
  have hown : s.vm.findClass RX1 = some m.cls := findClass_of_methodNamed B.named
  have hlocks := B.notSynchronized
  have hA : ∀ q, A q → A q := fun _ h => h
  have hS : va_S A s.heap s.heap [] := va_S.rf
  have hS0 := hS
  have hl := lv_entry ([.ref p0, .ref p1, .int x2, .int x3]) (n := 5) (Nat.le_of_ble_eq_true rfl)
  rw [lg_entry_eq]
  generalize (lg_sl ([.ref p0, .ref p1, .int x2, .int x3]) ++ List.replicate (5 - (lg_sl ([.ref p0, .ref p1, .int x2, .int x3])).length) Slot.unset).toArray = ls at hl ⊢
  have hl : lv_has ls 5 [(0, .ref p0), (1, .ref p1), (2, .int x2), (3, .int x3)] := hl
  have hE : ∀ q : Nat, (q < p0 ∨ p0 + 5 ≤ q) → Ω q = Ω q := by intros; rfl
  generalize hR : (f_X1_putBits p0_0 p1_0 x2 x3) = R
  rw [f_X1_putBits] at hR
  refine lv_aload_n hx hb dX1_putBits_0 rfl (lv_at hl 1 rfl) ?_
  refine o_get hx hb hts hown hK hW (inBlk_o h_p1) rfl ig0 6 (by decide) fl_X1_47 rfl dX1_putBits_1 ?_
  refine lv_iload_n hx hb dX1_putBits_4 rfl (lv_at hl 2 rfl) ?_
  refine o_iald hx hb hK hW (inBlk_a3 h_p1) (vp_in_iff.mpr ⟨by omega, by omega⟩) dX1_putBits_5 ?_
  refine lv_istore (lv' := [(4, .int ((p1_0 4) x2.toNatClampNeg)), (0, .ref p0), (1, .ref p1), (2, .int x2), (3, .int x3)]) hx hb dX1_putBits_6 hl (by decide) rfl (fun ls hl => ?_)
  refine lv_aload_n hx hb dX1_putBits_8 rfl (lv_at hl 1 rfl) ?_
  refine o_get hx hb hts hown hK hW (inDev_o h_p0) rfl ig1 0 (by decide) fl_X1_9 rfl dX1_putBits_9 ?_
  refine lv_iload hx hb dX1_putBits_12 (lv_at hl 0 rfl) ?_
  refine lv_aload_n hx hb dX1_putBits_14 rfl (lv_at hl 1 rfl) ?_
  refine o_get hx hb hts hown hK hW (inDev_o h_p0) rfl ig1 0 (by decide) fl_X1_9 rfl dX1_putBits_15 ?_
  refine lv_iload hx hb dX1_putBits_18 (lv_at hl 0 rfl) ?_
  try have j_1 : 0 ≤ ((p1_0 4) x2.toNatClampNeg).toInt ∧ ((p1_0 4) x2.toNatClampNeg).toInt < 6 := BI_owner hB_p1 _
  refine o_iald hx hb hK hW (inDev_a0 h_p0) (vp_in_iff.mpr ⟨by omega, by omega⟩) dX1_putBits_20 ?_
  refine lv_aload_n hx hb dX1_putBits_21 rfl (lv_at hl 2 rfl) ?_
  refine o_get hx hb hts hown hK hW (inBlk_o h_p1) rfl ig0 10 (by decide) fl_X1_50 rfl dX1_putBits_22 ?_
  refine lv_iload_n hx hb dX1_putBits_25 rfl (lv_at hl 3 rfl) ?_
  refine o_iald hx hb hK hW (inBlk_a7 h_p1) (vp_in_iff.mpr ⟨by omega, by omega⟩) dX1_putBits_26 ?_
  refine lv_iconst (v := (-1 : Int32)) hx hb dX1_putBits_27 (by decide) ?_
  refine lv_ixor hx hb dX1_putBits_28 ?_
  refine lv_iand hx hb dX1_putBits_29 ?_
  refine lv_iload_n hx hb dX1_putBits_30 rfl (lv_at hl 4 rfl) ?_
  refine lv_aload_n hx hb dX1_putBits_31 rfl (lv_at hl 2 rfl) ?_
  refine o_get hx hb hts hown hK hW (inBlk_o h_p1) rfl ig0 10 (by decide) fl_X1_50 rfl dX1_putBits_32 ?_
  refine lv_iload_n hx hb dX1_putBits_35 rfl (lv_at hl 3 rfl) ?_
  refine o_iald hx hb hK hW (inBlk_a7 h_p1) (vp_in_iff.mpr ⟨by omega, by omega⟩) dX1_putBits_36 ?_
  refine lv_iand hx hb dX1_putBits_37 ?_
  refine lv_ior hx hb dX1_putBits_38 ?_
  refine wDev_0 hx hb hK hW hS hA h_p0 (vp_in_iff.mpr ⟨by omega, by omega⟩) dX1_putBits_39 (fun Ω_2 H locs h_p0 hF_2 hW hS => ?_)
  have h_p1 := h_p1.keep (fun q h1 h2 => hF_2 q (by omega))
  have hE : ∀ q : Nat, (q < p0 ∨ p0 + 5 ≤ q) → Ω_2 q = Ω q := fun q g0 => (hF_2 q (by omega)).trans (hE q g0)
  subst hR
  exact W.vret hx hb hr (fun t ht hW9 => ⟨⟨Ω_2, rfl, ⟨h_p0, hE⟩, by rw [oB, ht]; exact hW⟩, hS.F ht⟩) hS.2.2 dX1_putBits_40
set_option maxHeartbeats 4000000 in
set_option maxRecDepth 100000 in
theorem c_X1_putValue (l : Launch) (G : Gm) (A : Nat → Prop) (Ω : Om) (p0 : Nat) (p1 : Nat) (p0_0 : Fn) (p0_1 : Fn) (p0_2 : Fn) (p0_3 : Fn) (p1_0 : Blk) (x2 : Int32) (x3 : Int32) (hd_p0_p1 : p0 + 5 ≤ p1 ∨ p1 + 13 ≤ p0) (hB_p1 : BlkInv p1_0) (hi_x2 : 0 ≤ x2.toInt ∧ x2.toInt < 12) (h_p0 : inDev G Ω p0 p0_0 p0_1 p0_2 p0_3) (h_p1 : inBlk G Ω p1 p1_0) : Met l yX1_putValue (wz yX1_putValue cX1_putValue 4 none) ({ frames := 1, cells := 0, slots := 0, locals := 24 } : Room) (va_Pc [.ref p0, .ref p1, .int x2, .int x3] (oS G A Ω)) (va_Qv (fun (Ω1 : Om) => inDev G Ω1 p0 ((f_X1_putValue p0_0 p1_0 x2 x3)) p0_1 p0_2 p0_3 ∧ (∀ q : Nat, (q < p0 ∨ p0 + 5 ≤ q) → Ω1 q = Ω q)) (oB G A) A) 0 0 A := by
  refine Met.ofW (cc := cX1_putValue) (maxL := 4) (ret := none) (by decide) rfl ?_
  intro p e s m args below meth c s₁ B hml hv
  obtain ⟨rfl, hW, hK, hN, hZ⟩ := hv
  have hx := B.exec
  have hb := B.bytes
  have hr := B.returns
  have hts : ∀ w ∈ gt, w.before _ s = true := fun w hw => atoms_spec (ws := wz yX1_putValue cX1_putValue 4 none) B.pre w (List.mem_cons_of_mem _ hw)
  have hown : s.vm.findClass RX1 = some m.cls := findClass_of_methodNamed B.named
  have hlocks := B.notSynchronized
  have hA : ∀ q, A q → A q := fun _ h => h
  have hS : va_S A s.heap s.heap [] := va_S.rf
  have hS0 := hS
  have hl := lv_entry ([.ref p0, .ref p1, .int x2, .int x3]) (n := 4) (Nat.le_of_ble_eq_true rfl)
  rw [lg_entry_eq]
  generalize (lg_sl ([.ref p0, .ref p1, .int x2, .int x3]) ++ List.replicate (4 - (lg_sl ([.ref p0, .ref p1, .int x2, .int x3])).length) Slot.unset).toArray = ls at hl ⊢
  have hl : lv_has ls 4 [(0, .ref p0), (1, .ref p1), (2, .int x2), (3, .int x3)] := hl
  have hE : ∀ q : Nat, (q < p0 ∨ p0 + 5 ≤ q) → Ω q = Ω q := by intros; rfl
  generalize hR : (f_X1_putValue p0_0 p1_0 x2 x3) = R
  rw [f_X1_putValue] at hR
  refine lv_aload_n hx hb dX1_putValue_0 rfl (lv_at hl 0 rfl) ?_
  refine lv_aload_n hx hb dX1_putValue_1 rfl (lv_at hl 1 rfl) ?_
  refine lv_iload_n hx hb dX1_putValue_2 rfl (lv_at hl 2 rfl) ?_
  refine lv_iload_n hx hb dX1_putValue_3 rfl (lv_at hl 3 rfl) ?_
  refine lv_aload_n hx hb dX1_putValue_4 rfl (lv_at hl 1 rfl) ?_
  refine o_get hx hb hts hown hK hW (inBlk_o h_p1) rfl ig0 8 (by decide) fl_X1_53 rfl dX1_putValue_5 ?_
  refine lv_iload_n hx hb dX1_putValue_8 rfl (lv_at hl 2 rfl) ?_
  refine o_iald hx hb hK hW (inBlk_a5 h_p1) (vp_in_iff.mpr ⟨by omega, by omega⟩) dX1_putValue_9 ?_
  refine lv_ishl hx hb dX1_putValue_10 ?_
  refine o_Vv (rest := []) (As := [.ref p1, .int x2, .int (x3 <<< (((p1_0 6) x2.toNatClampNeg) &&& 31))]) (n := 3) hx hb hml hown hts hK hN hZ hW hS hA (c_X1_putBits l G A Ω p0 p1 p0_0 p0_1 p0_2 p0_3 p1_0 x2 (x3 <<< (((p1_0 6) x2.toNatClampNeg) &&& 31)) (by omega) hB_p1 (by omega) h_p0 h_p1) (inDev_o h_p0) rfl (good_V ml_X1_56 im_X1_putBits se_X1_putBits ini_X1 co_X1_putBits) (by decide +kernel) ⟨Nat.zero_le _, Nat.zero_le _⟩ hl.1 (Nat.le_of_ble_eq_true rfl) rfl rfl dX1_putValue_11 (fun Ω_1 H locs hp hW hS => ?_)
  obtain ⟨h_p0, hF_1⟩ := hp
  have h_p1 := h_p1.keep (fun q h1 h2 => hF_1 q (by omega))
  have hE : ∀ q : Nat, (q < p0 ∨ p0 + 5 ≤ q) → Ω_1 q = Ω q := fun q g0 => (hF_1 q (by omega)).trans (hE q g0)
  subst hR
  exact W.vret hx hb hr (fun t ht hW9 => ⟨⟨Ω_1, rfl, ⟨h_p0, hE⟩, by rw [oB, ht]; exact hW⟩, hS.F ht⟩) hS.2.2 dX1_putValue_14
set_option maxHeartbeats 4000000 in
set_option maxRecDepth 100000 in
theorem c_X1_restart (l : Launch) (G : Gm) (A : Nat → Prop) (Ω : Om) (p0 : Nat) (p1 : Nat) (p0_0 : Fn) (p0_1 : Fn) (p0_2 : Fn) (p0_3 : Fn) (p1_0 : Blk) (hd_p0_p1 : p0 + 5 ≤ p1 ∨ p1 + 13 ≤ p0) (hB_p1 : BlkInv p1_0) (h_p0 : inDev G Ω p0 p0_0 p0_1 p0_2 p0_3) (h_p1 : inBlk G Ω p1 p1_0) : Met l yX1_restart (wz yX1_restart cX1_restart 3 none) ({ frames := 2, cells := 0, slots := 0, locals := 47 } : Room) (va_Pc [.ref p0, .ref p1] (oS G A Ω)) (va_Qv (fun (Ω1 : Om) => inDev G Ω1 p0 ((f_X1_restart p0_0 p0_1 p0_2 p1_0).1) ((f_X1_restart p0_0 p0_1 p0_2 p1_0).2.1) ((f_X1_restart p0_0 p0_1 p0_2 p1_0).2.2) p0_3 ∧ (∀ q : Nat, (q < p0 ∨ p0 + 5 ≤ q) → Ω1 q = Ω q)) (oB G A) A) 0 0 A := by
  refine Met.ofW (cc := cX1_restart) (maxL := 3) (ret := none) (by decide) rfl ?_
  intro p e s m args below meth c s₁ B hml hv
  obtain ⟨rfl, hW, hK, hN, hZ⟩ := hv
  have hx := B.exec
  have hb := B.bytes
  have hr := B.returns
  have hts : ∀ w ∈ gt, w.before _ s = true := fun w hw => atoms_spec (ws := wz yX1_restart cX1_restart 3 none) B.pre w (List.mem_cons_of_mem _ hw)
  have hown : s.vm.findClass RX1 = some m.cls := findClass_of_methodNamed B.named
  have hlocks := B.notSynchronized
  have hA : ∀ q, A q → A q := fun _ h => h
  have hS : va_S A s.heap s.heap [] := va_S.rf
  have hS0 := hS
  have hl := lv_entry ([.ref p0, .ref p1]) (n := 3) (Nat.le_of_ble_eq_true rfl)
  rw [lg_entry_eq]
  generalize (lg_sl ([.ref p0, .ref p1]) ++ List.replicate (3 - (lg_sl ([.ref p0, .ref p1])).length) Slot.unset).toArray = ls at hl ⊢
  have hl : lv_has ls 3 [(0, .ref p0), (1, .ref p1)] := hl
  have hE : ∀ q : Nat, (q < p0 ∨ p0 + 5 ≤ q) → Ω q = Ω q := by intros; rfl
  generalize hR : (f_X1_restart p0_0 p0_1 p0_2 p1_0) = R
  rw [f_X1_restart] at hR
  refine lv_iconst (v := (0 : Int32)) hx hb dX1_restart_0 (by decide) ?_
  refine lv_istore_n (lv' := [(2, .int (0 : Int32)), (0, .ref p0), (1, .ref p1)]) hx hb dX1_restart_1 rfl hl (by decide) rfl (fun ls hl => ?_)
  have L2 : ∀ (n_2 : Nat) (x2_1 : Int32) (p0_0_1 : Fn) (p0_1_1 : Fn) (p0_2_1 : Fn) (Ω_3 : Om) (H : Heap) (locs : List Loc), (0 ≤ x2_1.toInt ∧ x2_1.toInt ≤ 6 ∧ 6 - x2_1.toInt < n_2) → inDev G Ω_3 p0 p0_0_1 p0_1_1 p0_2_1 p0_3 → inBlk G Ω_3 p1 p1_0 → (∀ q : Nat, (q < p0 ∨ p0 + 5 ≤ q) → Ω_3 q = Ω q) → oW G A Ω_3 H → va_S A s.heap H locs → ∀ ls : Array Slot, lv_has ls 3 [(0, .ref p0), (1, .ref p1), (2, .int x2_1)] → (f_X1_restart_L2 p1_0 n_2 x2_1 p0_0_1 p0_1_1 p0_2_1) = R → W p l e (headSpec (wz yX1_restart cX1_restart 3 none) ({ frames := 2, cells := 0, slots := 0, locals := 47 } : Room)).room s m ([.ref p0, .ref p1] : List Value).toArray below meth c H locs 0 0 (MQ below (va_Qv (fun (Ω1 : Om) => inDev G Ω1 p0 (R.1) (R.2.1) (R.2.2) p0_3 ∧ (∀ q : Nat, (q < p0 ∨ p0 + 5 ≤ q) → Ω1 q = Ω q)) (oB G A) A) ([.ref p0, .ref p1] : List Value).toArray s 0 0 A) (F0 m 2 ls []) := by
    intro n_2
    induction n_2 with
    | zero =>
      intro x2_1 p0_0_1 p0_1_1 p0_2_1 Ω_3 H locs v_2_0 h_p0 h_p1 hE hW hS ls hl hR
      exfalso
      omega
    | succ n_2 ih2 =>
      intro x2_1 p0_0_1 p0_1_1 p0_2_1 Ω_3 H locs v_2_0 h_p0 h_p1 hE hW hS ls hl hR
      rw [f_X1_restart_L2] at hR
      refine lv_iload_n hx hb dX1_restart_2 rfl (lv_at hl 2 rfl) ?_
      refine lv_bipush (v := (6 : Int32)) hx hb dX1_restart_3 (by decide) ?_
      have j_5 : (6 : Int32).toInt = 6 := by decide
      refine lv_icmp_ge (tgt := 36) hx hb dX1_restart_5 (by decide) (fun c_4 => ?_) (fun c_4 => ?_)
      · rw [if_pos c_4] at hR
        have i_4 := rle c_4
        refine lv_iconst (v := (0 : Int32)) hx hb dX1_restart_36 (by decide) ?_
        refine lv_istore_n (lv' := [(2, .int (0 : Int32)), (0, .ref p0), (1, .ref p1)]) hx hb dX1_restart_37 rfl hl (by decide) rfl (fun ls hl => ?_)
        have L38 : ∀ (n_7 : Nat) (x2_6 : Int32) (p0_0_6 : Fn) (Ω_8 : Om) (H : Heap) (locs : List Loc), (0 ≤ x2_6.toInt ∧ x2_6.toInt ≤ 12 ∧ 12 - x2_6.toInt < n_7) → inDev G Ω_8 p0 p0_0_6 p0_1_1 p0_2_1 p0_3 → inBlk G Ω_8 p1 p1_0 → (∀ q : Nat, (q < p0 ∨ p0 + 5 ≤ q) → Ω_8 q = Ω q) → oW G A Ω_8 H → va_S A s.heap H locs → ∀ ls : Array Slot, lv_has ls 3 [(0, .ref p0), (1, .ref p1), (2, .int x2_6)] → (f_X1_restart_L38 p0_1_1 p0_2_1 p1_0 n_7 x2_6 p0_0_6) = R → W p l e (headSpec (wz yX1_restart cX1_restart 3 none) ({ frames := 2, cells := 0, slots := 0, locals := 47 } : Room)).room s m ([.ref p0, .ref p1] : List Value).toArray below meth c H locs 0 0 (MQ below (va_Qv (fun (Ω1 : Om) => inDev G Ω1 p0 (R.1) (R.2.1) (R.2.2) p0_3 ∧ (∀ q : Nat, (q < p0 ∨ p0 + 5 ≤ q) → Ω1 q = Ω q)) (oB G A) A) ([.ref p0, .ref p1] : List Value).toArray s 0 0 A) (F0 m 38 ls []) := by
          intro n_7
          induction n_7 with
          | zero =>
            intro x2_6 p0_0_6 Ω_8 H locs v_38_0 h_p0 h_p1 hE hW hS ls hl hR
            exfalso
            omega
          | succ n_7 ih38 =>
            intro x2_6 p0_0_6 Ω_8 H locs v_38_0 h_p0 h_p1 hE hW hS ls hl hR
            rw [f_X1_restart_L38] at hR
            refine lv_iload_n hx hb dX1_restart_38 rfl (lv_at hl 2 rfl) ?_
            refine lv_aload_n hx hb dX1_restart_39 rfl (lv_at hl 1 rfl) ?_
            refine o_get hx hb hts hown hK hW (inBlk_o h_p1) rfl ig0 1 (by decide) fl_X1_36 rfl dX1_restart_40 ?_
            try have j_10 : 0 ≤ (p1_0 0 1).toInt ∧ (p1_0 0 1).toInt ≤ 12 := BI_flds (by assumption)
            refine lv_icmp_ge (tgt := 64) hx hb dX1_restart_43 (by decide) (fun c_9 => ?_) (fun c_9 => ?_)
            · rw [if_pos c_9] at hR
              have i_9 := rle c_9
              subst hR
              exact W.vret hx hb hr (fun t ht hW9 => ⟨⟨Ω_8, rfl, ⟨h_p0, hE⟩, by rw [oB, ht]; exact hW⟩, hS.F ht⟩) hS.2.2 dX1_restart_64
            · rw [if_neg c_9] at hR
              have i_9 := rnle c_9
              refine lv_aload_n hx hb dX1_restart_46 rfl (lv_at hl 0 rfl) ?_
              refine lv_aload_n hx hb dX1_restart_47 rfl (lv_at hl 1 rfl) ?_
              refine lv_iload_n hx hb dX1_restart_48 rfl (lv_at hl 2 rfl) ?_
              refine lv_aload_n hx hb dX1_restart_49 rfl (lv_at hl 1 rfl) ?_
              refine o_get hx hb hts hown hK hW (inBlk_o h_p1) rfl ig0 11 (by decide) fl_X1_40 rfl dX1_restart_50 ?_
              refine lv_iload_n hx hb dX1_restart_53 rfl (lv_at hl 2 rfl) ?_
              refine o_iald hx hb hK hW (inBlk_a8 h_p1) (vp_in_iff.mpr ⟨by omega, by omega⟩) dX1_restart_54 ?_
              refine o_Vv (rest := []) (As := [.ref p1, .int x2_6, .int ((p1_0 9) x2_6.toNatClampNeg)]) (n := 3) hx hb hml hown hts hK hN hZ hW hS hA (c_X1_putValue l G A Ω_8 p0 p1 p0_0_6 p0_1_1 p0_2_1 p0_3 p1_0 x2_6 ((p1_0 9) x2_6.toNatClampNeg) (by omega) hB_p1 (by omega) h_p0 h_p1) (inDev_o h_p0) rfl (good_V ml_X1_43 im_X1_putValue se_X1_putValue ini_X1 co_X1_putValue) (by decide +kernel) ⟨Nat.zero_le _, Nat.zero_le _⟩ hl.1 (Nat.le_of_ble_eq_true rfl) rfl rfl dX1_restart_55 (fun Ω_11 H locs hp hW hS => ?_)
              obtain ⟨h_p0, hF_11⟩ := hp
              have h_p1 := h_p1.keep (fun q h1 h2 => hF_11 q (by omega))
              have hE : ∀ q : Nat, (q < p0 ∨ p0 + 5 ≤ q) → Ω_11 q = Ω q := fun q g0 => (hF_11 q (by omega)).trans (hE q g0)
              refine lv_iinc (v := (x2_6 + (1 : Int32))) (lv' := [(2, .int (x2_6 + (1 : Int32))), (0, .ref p0), (1, .ref p1)]) hx hb dX1_restart_58 hl (k := 2) rfl rfl (by decide) rfl (fun ls hl => ?_)
              refine lv_goto (tgt := 38) hx hb dX1_restart_61 (by decide) ?_
              have j_12 : (1 : Int32).toInt = 1 := by decide
              try have j_13 : (x2_6 + (1 : Int32)).toInt = x2_6.toInt + (1 : Int32).toInt := fb_addI (by omega) (by omega)
              exact ih38 (x2_6 + (1 : Int32)) (f_X1_putValue p0_0_6 p1_0 x2_6 ((p1_0 9) x2_6.toNatClampNeg)) Ω_11 H locs (by omega) h_p0 h_p1 hE hW hS ls (lv_sub hl [1, 2, 0] rfl) hR
        have j_14 : (0 : Int32).toInt = 0 := by decide
        exact L38 4000 (0 : Int32) p0_0_1 Ω_3 H locs (by omega) h_p0 h_p1 hE hW hS ls (lv_sub hl [1, 2, 0] rfl) hR
      · rw [if_neg c_4] at hR
        have i_4 := rnle c_4
        refine lv_aload_n hx hb dX1_restart_8 rfl (lv_at hl 0 rfl) ?_
        refine o_get hx hb hts hown hK hW (inDev_o h_p0) rfl ig1 0 (by decide) fl_X1_9 rfl dX1_restart_9 ?_
        refine lv_iload_n hx hb dX1_restart_12 rfl (lv_at hl 2 rfl) ?_
        refine lv_iconst (v := (0 : Int32)) hx hb dX1_restart_13 (by decide) ?_
        refine wDev_0 hx hb hK hW hS hA h_p0 (vp_in_iff.mpr ⟨by omega, by omega⟩) dX1_restart_14 (fun Ω_15 H locs h_p0 hF_15 hW hS => ?_)
        have h_p1 := h_p1.keep (fun q h1 h2 => hF_15 q (by omega))
        have hE : ∀ q : Nat, (q < p0 ∨ p0 + 5 ≤ q) → Ω_15 q = Ω q := fun q g0 => (hF_15 q (by omega)).trans (hE q g0)
        refine lv_aload_n hx hb dX1_restart_15 rfl (lv_at hl 0 rfl) ?_
        refine o_get hx hb hts hown hK hW (inDev_o h_p0) rfl ig1 1 (by decide) fl_X1_15 rfl dX1_restart_16 ?_
        refine lv_iload_n hx hb dX1_restart_19 rfl (lv_at hl 2 rfl) ?_
        refine lv_bipush (v := (-9 : Int32)) hx hb dX1_restart_20 (by decide) ?_
        refine wDev_1 hx hb hK hW hS hA h_p0 (vp_in_iff.mpr ⟨by omega, by omega⟩) dX1_restart_22 (fun Ω_16 H locs h_p0 hF_16 hW hS => ?_)
        have h_p1 := h_p1.keep (fun q h1 h2 => hF_16 q (by omega))
        have hE : ∀ q : Nat, (q < p0 ∨ p0 + 5 ≤ q) → Ω_16 q = Ω q := fun q g0 => (hF_16 q (by omega)).trans (hE q g0)
        refine lv_aload_n hx hb dX1_restart_23 rfl (lv_at hl 0 rfl) ?_
        refine o_get hx hb hts hown hK hW (inDev_o h_p0) rfl ig1 2 (by decide) fl_X1_18 rfl dX1_restart_24 ?_
        refine lv_iload_n hx hb dX1_restart_27 rfl (lv_at hl 2 rfl) ?_
        refine lv_iconst (v := (0 : Int32)) hx hb dX1_restart_28 (by decide) ?_
        refine wDev_2 hx hb hK hW hS hA h_p0 (vp_in_iff.mpr ⟨by omega, by omega⟩) dX1_restart_29 (fun Ω_17 H locs h_p0 hF_17 hW hS => ?_)
        have h_p1 := h_p1.keep (fun q h1 h2 => hF_17 q (by omega))
        have hE : ∀ q : Nat, (q < p0 ∨ p0 + 5 ≤ q) → Ω_17 q = Ω q := fun q g0 => (hF_17 q (by omega)).trans (hE q g0)
        refine lv_iinc (v := (x2_1 + (1 : Int32))) (lv' := [(2, .int (x2_1 + (1 : Int32))), (0, .ref p0), (1, .ref p1)]) hx hb dX1_restart_30 hl (k := 2) rfl rfl (by decide) rfl (fun ls hl => ?_)
        refine lv_goto (tgt := 2) hx hb dX1_restart_33 (by decide) ?_
        have j_18 : (1 : Int32).toInt = 1 := by decide
        try have j_19 : (x2_1 + (1 : Int32)).toInt = x2_1.toInt + (1 : Int32).toInt := fb_addI (by omega) (by omega)
        exact ih2 (x2_1 + (1 : Int32)) (upd p0_0_1 x2_1.toNatClampNeg (0 : Int32)) (upd p0_1_1 x2_1.toNatClampNeg (-9 : Int32)) (upd p0_2_1 x2_1.toNatClampNeg (vp_nar .boolean (0 : Int32))) Ω_17 H locs (by omega) h_p0 h_p1 hE hW hS ls (lv_sub hl [1, 2, 0] rfl) hR
  have j_20 : (0 : Int32).toInt = 0 := by decide
  exact L2 4000 (0 : Int32) p0_0 p0_1 p0_2 Ω s.heap [] (by omega) h_p0 h_p1 hE hW hS ls (lv_sub hl [1, 2, 0] rfl) hR
set_option maxHeartbeats 4000000 in
set_option maxRecDepth 100000 in
theorem c_X5_restart (l : Launch) (G : Gm) (A : Nat → Prop) (Ω : Om) (p0 : Nat) (p1 : Nat) (p0_0 : Int32) (p0_1 : Int32) (p0d_0 : Fn) (p0d_1 : Fn) (p0d_2 : Fn) (p0d_3 : Fn) (p0m_0 : Fn) (p0m_1 : Fn) (p0m_2 : Fn) (p0m_3 : Fn) (p0j_0 : Int32) (p0j_1 : Fn) (p0j_2 : Fn) (p0j_3 : Fn) (p1_0 : Blk) (hd_p0_p1 : p0 + 15 ≤ p1 ∨ p1 + 13 ≤ p0) (hB_p1 : BlkInv p1_0) (h_p0 : inSitO G Ω p0 p0_0 p0_1) (h_p0d : inDev G Ω (p0 + 1) p0d_0 p0d_1 p0d_2 p0d_3) (h_p0m : inDev G Ω (p0 + 6) p0m_0 p0m_1 p0m_2 p0m_3) (h_p0j : inJou G Ω (p0 + 11) p0j_0 p0j_1 p0j_2 p0j_3) (h_p1 : inBlk G Ω p1 p1_0) : Met l yX5_restart (wz yX5_restart cX5_restart 2 none) ({ frames := 3, cells := 0, slots := 0, locals := 69 } : Room) (va_Pc [.ref p0, .ref p1] (oS G A Ω)) (va_Qv (fun (Ω1 : Om) => inSitO G Ω1 p0 ((f_X5_restart p0d_0 p0d_1 p0d_2 p0m_0 p0m_1 p0m_2 p1_0).1) ((f_X5_restart p0d_0 p0d_1 p0d_2 p0m_0 p0m_1 p0m_2 p1_0).2.1) ∧ inDev G Ω1 (p0 + 1) ((f_X5_restart p0d_0 p0d_1 p0d_2 p0m_0 p0m_1 p0m_2 p1_0).2.2.1) ((f_X5_restart p0d_0 p0d_1 p0d_2 p0m_0 p0m_1 p0m_2 p1_0).2.2.2.1) ((f_X5_restart p0d_0 p0d_1 p0d_2 p0m_0 p0m_1 p0m_2 p1_0).2.2.2.2.1) p0d_3 ∧ inDev G Ω1 (p0 + 6) ((f_X5_restart p0d_0 p0d_1 p0d_2 p0m_0 p0m_1 p0m_2 p1_0).2.2.2.2.2.1) ((f_X5_restart p0d_0 p0d_1 p0d_2 p0m_0 p0m_1 p0m_2 p1_0).2.2.2.2.2.2.1) ((f_X5_restart p0d_0 p0d_1 p0d_2 p0m_0 p0m_1 p0m_2 p1_0).2.2.2.2.2.2.2.1) p0m_3 ∧ inJou G Ω1 (p0 + 11) ((f_X5_restart p0d_0 p0d_1 p0d_2 p0m_0 p0m_1 p0m_2 p1_0).2.2.2.2.2.2.2.2) p0j_1 p0j_2 p0j_3 ∧ (∀ q : Nat, (q < p0 ∨ p0 + 1 ≤ q) → (q < (p0 + 1) ∨ (p0 + 1) + 5 ≤ q) → (q < (p0 + 6) ∨ (p0 + 6) + 5 ≤ q) → (q < (p0 + 11) ∨ (p0 + 11) + 4 ≤ q) → Ω1 q = Ω q)) (oB G A) A) 0 0 A := by
  refine Met.ofW (cc := cX5_restart) (maxL := 2) (ret := none) (by decide) rfl ?_
  intro p e s m args below meth c s₁ B hml hv
  obtain ⟨rfl, hW, hK, hN, hZ⟩ := hv
  have hx := B.exec
  have hb := B.bytes
  have hr := B.returns
  have hts : ∀ w ∈ gt, w.before _ s = true := fun w hw => atoms_spec (ws := wz yX5_restart cX5_restart 2 none) B.pre w (List.mem_cons_of_mem _ hw)
  have hown : s.vm.findClass RX5 = some m.cls := findClass_of_methodNamed B.named
  have hlocks := B.notSynchronized
  have hA : ∀ q, A q → A q := fun _ h => h
  have hS : va_S A s.heap s.heap [] := va_S.rf
  have hS0 := hS
  have hl := lv_entry ([.ref p0, .ref p1]) (n := 2) (Nat.le_of_ble_eq_true rfl)
  rw [lg_entry_eq]
  generalize (lg_sl ([.ref p0, .ref p1]) ++ List.replicate (2 - (lg_sl ([.ref p0, .ref p1])).length) Slot.unset).toArray = ls at hl ⊢
  have hl : lv_has ls 2 [(0, .ref p0), (1, .ref p1)] := hl
  have hE : ∀ q : Nat, (q < p0 ∨ p0 + 1 ≤ q) → (q < (p0 + 1) ∨ (p0 + 1) + 5 ≤ q) → (q < (p0 + 6) ∨ (p0 + 6) + 5 ≤ q) → (q < (p0 + 11) ∨ (p0 + 11) + 4 ≤ q) → Ω q = Ω q := by intros; rfl
  generalize hR : (f_X5_restart p0d_0 p0d_1 p0d_2 p0m_0 p0m_1 p0m_2 p1_0) = R
  rw [f_X5_restart] at hR
  refine lv_aload_n hx hb dX5_restart_0 rfl (lv_at hl 0 rfl) ?_
  refine o_get hx hb hts hown hK hW (inSitO_o h_p0) rfl ig5 0 (by decide) fl_X5_12 rfl dX5_restart_1 ?_
  refine lv_aload_n hx hb dX5_restart_4 rfl (lv_at hl 1 rfl) ?_
  refine o_Vv (rest := []) (As := [.ref p1]) (n := 1) hx hb hml hown hts hK hN hZ hW hS hA (c_X1_restart l G A Ω (p0 + 1) p1 p0d_0 p0d_1 p0d_2 p0d_3 p1_0 (by omega) hB_p1 h_p0d h_p1) (inDev_o h_p0d) rfl (good_V ml_X5_49 im_X1_restart se_X1_restart ini_X1 co_X1_restart) (by decide +kernel) ⟨Nat.zero_le _, Nat.zero_le _⟩ hl.1 (Nat.le_of_ble_eq_true rfl) rfl rfl dX5_restart_5 (fun Ω_1 H locs hp hW hS => ?_)
  obtain ⟨h_p0d, hF_1⟩ := hp
  have h_p0 := h_p0.keep (fun q h1 h2 => hF_1 q (by omega))
  have h_p0m := h_p0m.keep (fun q h1 h2 => hF_1 q (by omega))
  have h_p0j := h_p0j.keep (fun q h1 h2 => hF_1 q (by omega))
  have h_p1 := h_p1.keep (fun q h1 h2 => hF_1 q (by omega))
  have hE : ∀ q : Nat, (q < p0 ∨ p0 + 1 ≤ q) → (q < (p0 + 1) ∨ (p0 + 1) + 5 ≤ q) → (q < (p0 + 6) ∨ (p0 + 6) + 5 ≤ q) → (q < (p0 + 11) ∨ (p0 + 11) + 4 ≤ q) → Ω_1 q = Ω q := fun q g0 g1 g2 g3 => (hF_1 q (by omega)).trans (hE q g0 g1 g2 g3)
  generalize (f_X1_restart p0d_0 p0d_1 p0d_2 p1_0) = Z_1 at h_p0d hR
  obtain ⟨z1_0, z1_1, z1_2⟩ := Z_1
  dsimp only at h_p0d hR
  rw [f_X5_restart_C8] at hR
  refine lv_aload_n hx hb dX5_restart_8 rfl (lv_at hl 0 rfl) ?_
  refine o_get hx hb hts hown hK hW (inSitO_o h_p0) rfl ig5 1 (by decide) fl_X5_18 rfl dX5_restart_9 ?_
  refine lv_aload_n hx hb dX5_restart_12 rfl (lv_at hl 1 rfl) ?_
  refine o_Vv (rest := []) (As := [.ref p1]) (n := 1) hx hb hml hown hts hK hN hZ hW hS hA (c_X1_restart l G A Ω_1 (p0 + 6) p1 p0m_0 p0m_1 p0m_2 p0m_3 p1_0 (by omega) hB_p1 h_p0m h_p1) (inDev_o h_p0m) rfl (good_V ml_X5_49 im_X1_restart se_X1_restart ini_X1 co_X1_restart) (by decide +kernel) ⟨Nat.zero_le _, Nat.zero_le _⟩ hl.1 (Nat.le_of_ble_eq_true rfl) rfl rfl dX5_restart_13 (fun Ω_2 H locs hp hW hS => ?_)
  obtain ⟨h_p0m, hF_2⟩ := hp
  have h_p0 := h_p0.keep (fun q h1 h2 => hF_2 q (by omega))
  have h_p0d := h_p0d.keep (fun q h1 h2 => hF_2 q (by omega))
  have h_p0j := h_p0j.keep (fun q h1 h2 => hF_2 q (by omega))
  have h_p1 := h_p1.keep (fun q h1 h2 => hF_2 q (by omega))
  have hE : ∀ q : Nat, (q < p0 ∨ p0 + 1 ≤ q) → (q < (p0 + 1) ∨ (p0 + 1) + 5 ≤ q) → (q < (p0 + 6) ∨ (p0 + 6) + 5 ≤ q) → (q < (p0 + 11) ∨ (p0 + 11) + 4 ≤ q) → Ω_2 q = Ω q := fun q g0 g1 g2 g3 => (hF_2 q (by omega)).trans (hE q g0 g1 g2 g3)
  generalize (f_X1_restart p0m_0 p0m_1 p0m_2 p1_0) = Z_2 at h_p0m hR
  obtain ⟨z2_0, z2_1, z2_2⟩ := Z_2
  dsimp only at h_p0m hR
  rw [f_X5_restart_C16] at hR
  refine lv_aload_n hx hb dX5_restart_16 rfl (lv_at hl 0 rfl) ?_
  refine o_get hx hb hts hown hK hW (inSitO_o h_p0) rfl ig5 2 (by decide) fl_X5_24 rfl dX5_restart_17 ?_
  refine lv_iconst (v := (0 : Int32)) hx hb dX5_restart_20 (by decide) ?_
  refine vJou_0 hx hb hts hown hK hW hS hA h_p0j fl_X5_50 dX5_restart_21 (fun Ω_3 H locs h_p0j hF_3 hW hS => ?_)
  have h_p0 := h_p0.keep (fun q h1 h2 => hF_3 q (by omega))
  have h_p0d := h_p0d.keep (fun q h1 h2 => hF_3 q (by omega))
  have h_p0m := h_p0m.keep (fun q h1 h2 => hF_3 q (by omega))
  have h_p1 := h_p1.keep (fun q h1 h2 => hF_3 q (by omega))
  have hE : ∀ q : Nat, (q < p0 ∨ p0 + 1 ≤ q) → (q < (p0 + 1) ∨ (p0 + 1) + 5 ≤ q) → (q < (p0 + 6) ∨ (p0 + 6) + 5 ≤ q) → (q < (p0 + 11) ∨ (p0 + 11) + 4 ≤ q) → Ω_3 q = Ω q := fun q g0 g1 g2 g3 => (hF_3 q (by omega)).trans (hE q g0 g1 g2 g3)
  refine lv_aload_n hx hb dX5_restart_24 rfl (lv_at hl 0 rfl) ?_
  refine lv_iconst (v := (0 : Int32)) hx hb dX5_restart_25 (by decide) ?_
  refine vSitO_3 hx hb hts hown hK hW hS hA h_p0 fl_X5_39 dX5_restart_26 (fun Ω_4 H locs h_p0 hF_4 hW hS => ?_)
  have h_p0d := h_p0d.keep (fun q h1 h2 => hF_4 q (by omega))
  have h_p0m := h_p0m.keep (fun q h1 h2 => hF_4 q (by omega))
  have h_p0j := h_p0j.keep (fun q h1 h2 => hF_4 q (by omega))
  have h_p1 := h_p1.keep (fun q h1 h2 => hF_4 q (by omega))
  have hE : ∀ q : Nat, (q < p0 ∨ p0 + 1 ≤ q) → (q < (p0 + 1) ∨ (p0 + 1) + 5 ≤ q) → (q < (p0 + 6) ∨ (p0 + 6) + 5 ≤ q) → (q < (p0 + 11) ∨ (p0 + 11) + 4 ≤ q) → Ω_4 q = Ω q := fun q g0 g1 g2 g3 => (hF_4 q (by omega)).trans (hE q g0 g1 g2 g3)
  refine lv_aload_n hx hb dX5_restart_29 rfl (lv_at hl 0 rfl) ?_
  refine lv_bipush (v := (-9 : Int32)) hx hb dX5_restart_30 (by decide) ?_
  refine vSitO_4 hx hb hts hown hK hW hS hA h_p0 fl_X5_28 dX5_restart_32 (fun Ω_5 H locs h_p0 hF_5 hW hS => ?_)
  have h_p0d := h_p0d.keep (fun q h1 h2 => hF_5 q (by omega))
  have h_p0m := h_p0m.keep (fun q h1 h2 => hF_5 q (by omega))
  have h_p0j := h_p0j.keep (fun q h1 h2 => hF_5 q (by omega))
  have h_p1 := h_p1.keep (fun q h1 h2 => hF_5 q (by omega))
  have hE : ∀ q : Nat, (q < p0 ∨ p0 + 1 ≤ q) → (q < (p0 + 1) ∨ (p0 + 1) + 5 ≤ q) → (q < (p0 + 6) ∨ (p0 + 6) + 5 ≤ q) → (q < (p0 + 11) ∨ (p0 + 11) + 4 ≤ q) → Ω_5 q = Ω q := fun q g0 g1 g2 g3 => (hF_5 q (by omega)).trans (hE q g0 g1 g2 g3)
  subst hR
  exact W.vret hx hb hr (fun t ht hW9 => ⟨⟨Ω_5, rfl, ⟨h_p0, h_p0d, h_p0m, h_p0j, hE⟩, by rw [oB, ht]; exact hW⟩, hS.F ht⟩) hS.2.2 dX5_restart_35
set_option maxHeartbeats 4000000 in
set_option maxRecDepth 100000 in
theorem c_X0_registerAt (l : Launch) (G : Gm) (A : Nat → Prop) (Ω : Om) (p0 : Nat) (p0_0 : Blk) (x1 : Int32) (hB_p0 : BlkInv p0_0) (h_p0 : inBlk G Ω p0 p0_0) : Met l yX0_registerAt (wz yX0_registerAt cX0_registerAt 3 (some .int)) ({ frames := 0, cells := 0, slots := 0, locals := 0 } : Room) (va_Pc [.ref p0, .int x1] (oS G A Ω)) (va_Qi (fun (r : Int32) (Ω1 : Om) => r = (f_X0_registerAt p0_0 x1) ∧ Ω1 = Ω) (oB G A) A) 0 0 A := by
  refine Met.ofW (cc := cX0_registerAt) (maxL := 3) (ret := (some .int)) (by decide) rfl ?_
  intro p e s m args below meth c s₁ B hml hv
  obtain ⟨rfl, hW, hK, hN, hZ⟩ := hv
  have hx := B.exec
  have hb := B.bytes
  have hr := B.returns
  have hts : ∀ w ∈ gt, w.before _ s = true := fun w hw => atoms_spec (ws := wz yX0_registerAt cX0_registerAt 3 (some .int)) B.pre w (List.mem_cons_of_mem _ hw)
  have hown : s.vm.findClass RX0 = some m.cls := findClass_of_methodNamed B.named
  have hlocks := B.notSynchronized
  have hA : ∀ q, A q → A q := fun _ h => h
  have hS : va_S A s.heap s.heap [] := va_S.rf
  have hS0 := hS
  have hl := lv_entry ([.ref p0, .int x1]) (n := 3) (Nat.le_of_ble_eq_true rfl)
  rw [lg_entry_eq]
  generalize (lg_sl ([.ref p0, .int x1]) ++ List.replicate (3 - (lg_sl ([.ref p0, .int x1])).length) Slot.unset).toArray = ls at hl ⊢
  have hl : lv_has ls 3 [(0, .ref p0), (1, .int x1)] := hl
  generalize hR : (f_X0_registerAt p0_0 x1) = R
  rw [f_X0_registerAt] at hR
  refine lv_iconst (v := (0 : Int32)) hx hb dX0_registerAt_0 (by decide) ?_
  refine lv_istore_n (lv' := [(2, .int (0 : Int32)), (0, .ref p0), (1, .int x1)]) hx hb dX0_registerAt_1 rfl hl (by decide) rfl (fun ls hl => ?_)
  have L2 : ∀ (n_2 : Nat) (x2_1 : Int32) (H : Heap) (locs : List Loc), (0 ≤ x2_1.toInt ∧ x2_1.toInt ≤ 6 ∧ 6 - x2_1.toInt < n_2) → oW G A Ω H → va_S A s.heap H locs → ∀ ls : Array Slot, lv_has ls 3 [(0, .ref p0), (1, .int x1), (2, .int x2_1)] → (f_X0_registerAt_L2 p0_0 x1 n_2 x2_1) = R → W p l e (headSpec (wz yX0_registerAt cX0_registerAt 3 (some .int)) ({ frames := 0, cells := 0, slots := 0, locals := 0 } : Room)).room s m ([.ref p0, .int x1] : List Value).toArray below meth c H locs 0 0 (MQ below (va_Qi (fun (r : Int32) (Ω1 : Om) => r = R ∧ Ω1 = Ω) (oB G A) A) ([.ref p0, .int x1] : List Value).toArray s 0 0 A) (F0 m 2 ls []) := by
    intro n_2
    induction n_2 with
    | zero =>
      intro x2_1 H locs v_2_0 hW hS ls hl hR
      exfalso
      omega
    | succ n_2 ih2 =>
      intro x2_1 H locs v_2_0 hW hS ls hl hR
      rw [f_X0_registerAt_L2] at hR
      refine lv_iload_n hx hb dX0_registerAt_2 rfl (lv_at hl 2 rfl) ?_
      refine lv_aload_n hx hb dX0_registerAt_3 rfl (lv_at hl 0 rfl) ?_
      refine o_get hx hb hts hown hK hW (inBlk_o h_p0) rfl ig0 0 (by decide) fl_X0_48 rfl dX0_registerAt_4 ?_
      try have j_4 : 0 ≤ (p0_0 0 0).toInt ∧ (p0_0 0 0).toInt ≤ 6 := BI_regs (by assumption)
      refine lv_icmp_ge (tgt := 28) hx hb dX0_registerAt_7 (by decide) (fun c_3 => ?_) (fun c_3 => ?_)
      · rw [if_pos c_3] at hR
        have i_3 := rle c_3
        refine lv_bipush (v := (-9 : Int32)) hx hb dX0_registerAt_28 (by decide) ?_
        subst hR
        exact W.iret (v := (-9 : Int32)) hx hb hr (fun t ht hW9 => ⟨⟨(-9 : Int32), Ω, rfl, ⟨rfl, rfl⟩, by rw [oB, ht]; exact hW⟩, hS.F ht⟩) hS.2.2 dX0_registerAt_30
      · rw [if_neg c_3] at hR
        have i_3 := rnle c_3
        refine lv_aload_n hx hb dX0_registerAt_10 rfl (lv_at hl 0 rfl) ?_
        refine o_get hx hb hts hown hK hW (inBlk_o h_p0) rfl ig0 3 (by decide) fl_X0_9 rfl dX0_registerAt_11 ?_
        refine lv_iload_n hx hb dX0_registerAt_14 rfl (lv_at hl 2 rfl) ?_
        refine o_iald hx hb hK hW (inBlk_a0 h_p0) (vp_in_iff.mpr ⟨by omega, by omega⟩) dX0_registerAt_15 ?_
        refine lv_iload_n hx hb dX0_registerAt_16 rfl (lv_at hl 1 rfl) ?_
        refine lv_icmp_ne (tgt := 22) hx hb dX0_registerAt_17 (by decide) (fun c_5 => ?_) (fun c_5 => ?_)
        · rw [if_neg c_5] at hR
          have i_5 := rne c_5
          refine lv_iinc (v := (x2_1 + (1 : Int32))) (lv' := [(2, .int (x2_1 + (1 : Int32))), (0, .ref p0), (1, .int x1)]) hx hb dX0_registerAt_22 hl (k := 2) rfl rfl (by decide) rfl (fun ls hl => ?_)
          refine lv_goto (tgt := 2) hx hb dX0_registerAt_25 (by decide) ?_
          have j_6 : (1 : Int32).toInt = 1 := by decide
          try have j_7 : (x2_1 + (1 : Int32)).toInt = x2_1.toInt + (1 : Int32).toInt := fb_addI (by omega) (by omega)
          exact ih2 (x2_1 + (1 : Int32)) H locs (by omega) hW hS ls (lv_sub hl [1, 2, 0] rfl) hR
        · rw [if_pos c_5] at hR
          have i_5 := congrArg Int32.toInt c_5
          refine lv_iload_n hx hb dX0_registerAt_20 rfl (lv_at hl 2 rfl) ?_
          subst hR
          exact W.iret (v := x2_1) hx hb hr (fun t ht hW9 => ⟨⟨x2_1, Ω, rfl, ⟨rfl, rfl⟩, by rw [oB, ht]; exact hW⟩, hS.F ht⟩) hS.2.2 dX0_registerAt_21
  have j_8 : (0 : Int32).toInt = 0 := by decide
  exact L2 4000 (0 : Int32) s.heap [] (by omega) hW hS ls (lv_sub hl [1, 2, 0] rfl) hR
set_option maxHeartbeats 4000000 in
set_option maxRecDepth 100000 in
theorem c_X0_aliasAt (l : Launch) (G : Gm) (A : Nat → Prop) (Ω : Om) (p0 : Nat) (p0_0 : Blk) (x1 : Int32) (hB_p0 : BlkInv p0_0) (h_p0 : inBlk G Ω p0 p0_0) : Met l yX0_aliasAt (wz yX0_aliasAt cX0_aliasAt 3 (some .int)) ({ frames := 1, cells := 0, slots := 0, locals := 22 } : Room) (va_Pc [.ref p0, .int x1] (oS G A Ω)) (va_Qi (fun (r : Int32) (Ω1 : Om) => r = (f_X0_aliasAt p0_0 x1) ∧ Ω1 = Ω) (oB G A) A) 0 0 A := by
  refine Met.ofW (cc := cX0_aliasAt) (maxL := 3) (ret := (some .int)) (by decide) rfl ?_
  intro p e s m args below meth c s₁ B hml hv
  obtain ⟨rfl, hW, hK, hN, hZ⟩ := hv
  have hx := B.exec
  have hb := B.bytes
  have hr := B.returns
  have hts : ∀ w ∈ gt, w.before _ s = true := fun w hw => atoms_spec (ws := wz yX0_aliasAt cX0_aliasAt 3 (some .int)) B.pre w (List.mem_cons_of_mem _ hw)
  have hown : s.vm.findClass RX0 = some m.cls := findClass_of_methodNamed B.named
  have hlocks := B.notSynchronized
  have hA : ∀ q, A q → A q := fun _ h => h
  have hS : va_S A s.heap s.heap [] := va_S.rf
  have hS0 := hS
  have hl := lv_entry ([.ref p0, .int x1]) (n := 3) (Nat.le_of_ble_eq_true rfl)
  rw [lg_entry_eq]
  generalize (lg_sl ([.ref p0, .int x1]) ++ List.replicate (3 - (lg_sl ([.ref p0, .int x1])).length) Slot.unset).toArray = ls at hl ⊢
  have hl : lv_has ls 3 [(0, .ref p0), (1, .int x1)] := hl
  generalize hR : (f_X0_aliasAt p0_0 x1) = R
  rw [f_X0_aliasAt] at hR
  refine lv_aload_n hx hb dX0_aliasAt_0 rfl (lv_at hl 0 rfl) ?_
  refine lv_iload_n hx hb dX0_aliasAt_1 rfl (lv_at hl 1 rfl) ?_
  refine o_ViR (rest := []) (As := [.int x1]) (n := 1) hx hb hml hown hts hK hN hZ hW hS hA (c_X0_registerAt l G A Ω p0 p0_0 x1 hB_p0 h_p0) (inBlk_o h_p0) rfl (good_V ml_X0_71 im_X0_registerAt se_X0_registerAt ini_X0 co_X0_registerAt) (by decide +kernel) ⟨Nat.zero_le _, Nat.zero_le _⟩ hl.1 (Nat.le_of_ble_eq_true rfl) rfl rfl dX0_aliasAt_2 (fun r H locs hp hW hS => ?_)
  subst hp
  refine lv_bipush (v := (-9 : Int32)) hx hb dX0_aliasAt_5 (by decide) ?_
  try have j_3 : (f_X0_registerAt p0_0 x1).toInt = -9 ∨ (0 ≤ (f_X0_registerAt p0_0 x1).toInt ∧ (f_X0_registerAt p0_0 x1).toInt < 6) := R_registerAt hB_p0 _
  have j_4 : (-9 : Int32).toInt = -9 := by decide
  refine lv_icmp_eq (tgt := 13) hx hb dX0_aliasAt_7 (by decide) (fun c_2 => ?_) (fun c_2 => ?_)
  · rw [if_pos c_2] at hR
    have i_2 := congrArg Int32.toInt c_2
    refine lv_iconst (v := (0 : Int32)) hx hb dX0_aliasAt_13 (by decide) ?_
    refine lv_istore_n (lv' := [(2, .int (0 : Int32)), (0, .ref p0), (1, .int x1)]) hx hb dX0_aliasAt_14 rfl hl (by decide) rfl (fun ls hl => ?_)
    have L15 : ∀ (n_6 : Nat) (x2_5 : Int32) (H : Heap) (locs : List Loc), (0 ≤ x2_5.toInt ∧ x2_5.toInt ≤ 4 ∧ 4 - x2_5.toInt < n_6) → oW G A Ω H → va_S A s.heap H locs → ∀ ls : Array Slot, lv_has ls 3 [(0, .ref p0), (1, .int x1), (2, .int x2_5)] → (f_X0_aliasAt_L15 p0_0 x1 n_6 x2_5) = R → W p l e (headSpec (wz yX0_aliasAt cX0_aliasAt 3 (some .int)) ({ frames := 1, cells := 0, slots := 0, locals := 22 } : Room)).room s m ([.ref p0, .int x1] : List Value).toArray below meth c H locs 0 0 (MQ below (va_Qi (fun (r : Int32) (Ω1 : Om) => r = R ∧ Ω1 = Ω) (oB G A) A) ([.ref p0, .int x1] : List Value).toArray s 0 0 A) (F0 m 15 ls []) := by
      intro n_6
      induction n_6 with
      | zero =>
        intro x2_5 H locs v_15_0 hW hS ls hl hR
        exfalso
        omega
      | succ n_6 ih15 =>
        intro x2_5 H locs v_15_0 hW hS ls hl hR
        rw [f_X0_aliasAt_L15] at hR
        refine lv_iload_n hx hb dX0_aliasAt_15 rfl (lv_at hl 2 rfl) ?_
        refine lv_aload_n hx hb dX0_aliasAt_16 rfl (lv_at hl 0 rfl) ?_
        refine o_get hx hb hts hown hK hW (inBlk_o h_p0) rfl ig0 2 (by decide) fl_X0_55 rfl dX0_aliasAt_17 ?_
        try have j_8 : 0 ≤ (p0_0 0 2).toInt ∧ (p0_0 0 2).toInt ≤ 4 := BI_als (by assumption)
        refine lv_icmp_ge (tgt := 41) hx hb dX0_aliasAt_20 (by decide) (fun c_7 => ?_) (fun c_7 => ?_)
        · rw [if_pos c_7] at hR
          have i_7 := rle c_7
          refine lv_bipush (v := (-9 : Int32)) hx hb dX0_aliasAt_41 (by decide) ?_
          subst hR
          exact W.iret (v := (-9 : Int32)) hx hb hr (fun t ht hW9 => ⟨⟨(-9 : Int32), Ω, rfl, ⟨rfl, rfl⟩, by rw [oB, ht]; exact hW⟩, hS.F ht⟩) hS.2.2 dX0_aliasAt_43
        · rw [if_neg c_7] at hR
          have i_7 := rnle c_7
          refine lv_aload_n hx hb dX0_aliasAt_23 rfl (lv_at hl 0 rfl) ?_
          refine o_get hx hb hts hown hK hW (inBlk_o h_p0) rfl ig0 12 (by decide) fl_X0_39 rfl dX0_aliasAt_24 ?_
          refine lv_iload_n hx hb dX0_aliasAt_27 rfl (lv_at hl 2 rfl) ?_
          refine o_iald hx hb hK hW (inBlk_a9 h_p0) (vp_in_iff.mpr ⟨by omega, by omega⟩) dX0_aliasAt_28 ?_
          refine lv_iload_n hx hb dX0_aliasAt_29 rfl (lv_at hl 1 rfl) ?_
          refine lv_icmp_ne (tgt := 35) hx hb dX0_aliasAt_30 (by decide) (fun c_9 => ?_) (fun c_9 => ?_)
          · rw [if_neg c_9] at hR
            have i_9 := rne c_9
            refine lv_iinc (v := (x2_5 + (1 : Int32))) (lv' := [(2, .int (x2_5 + (1 : Int32))), (0, .ref p0), (1, .int x1)]) hx hb dX0_aliasAt_35 hl (k := 2) rfl rfl (by decide) rfl (fun ls hl => ?_)
            refine lv_goto (tgt := 15) hx hb dX0_aliasAt_38 (by decide) ?_
            have j_10 : (1 : Int32).toInt = 1 := by decide
            try have j_11 : (x2_5 + (1 : Int32)).toInt = x2_5.toInt + (1 : Int32).toInt := fb_addI (by omega) (by omega)
            exact ih15 (x2_5 + (1 : Int32)) H locs (by omega) hW hS ls (lv_sub hl [1, 2, 0] rfl) hR
          · rw [if_pos c_9] at hR
            have i_9 := congrArg Int32.toInt c_9
            refine lv_iload_n hx hb dX0_aliasAt_33 rfl (lv_at hl 2 rfl) ?_
            subst hR
            exact W.iret (v := x2_5) hx hb hr (fun t ht hW9 => ⟨⟨x2_5, Ω, rfl, ⟨rfl, rfl⟩, by rw [oB, ht]; exact hW⟩, hS.F ht⟩) hS.2.2 dX0_aliasAt_34
    have j_12 : (0 : Int32).toInt = 0 := by decide
    exact L15 4000 (0 : Int32) H locs (by omega) hW hS ls (lv_sub hl [1, 2, 0] rfl) hR
  · rw [if_neg c_2] at hR
    have i_2 := rne c_2
    refine lv_bipush (v := (-9 : Int32)) hx hb dX0_aliasAt_10 (by decide) ?_
    subst hR
    exact W.iret (v := (-9 : Int32)) hx hb hr (fun t ht hW9 => ⟨⟨(-9 : Int32), Ω, rfl, ⟨rfl, rfl⟩, by rw [oB, ht]; exact hW⟩, hS.F ht⟩) hS.2.2 dX0_aliasAt_12
set_option maxHeartbeats 4000000 in
set_option maxRecDepth 100000 in
theorem c_X0_registerBehind (l : Launch) (G : Gm) (A : Nat → Prop) (Ω : Om) (p0 : Nat) (p0_0 : Blk) (x1 : Int32) (hB_p0 : BlkInv p0_0) (h_p0 : inBlk G Ω p0 p0_0) : Met l yX0_registerBehind (wz yX0_registerBehind cX0_registerBehind 3 (some .int)) ({ frames := 2, cells := 0, slots := 0, locals := 44 } : Room) (va_Pc [.ref p0, .int x1] (oS G A Ω)) (va_Qi (fun (r : Int32) (Ω1 : Om) => r = (f_X0_registerBehind p0_0 x1) ∧ Ω1 = Ω) (oB G A) A) 0 0 A := by
  refine Met.ofW (cc := cX0_registerBehind) (maxL := 3) (ret := (some .int)) (by decide) rfl ?_
  intro p e s m args below meth c s₁ B hml hv
  obtain ⟨rfl, hW, hK, hN, hZ⟩ := hv
  have hx := B.exec
  have hb := B.bytes
  have hr := B.returns
  have hts : ∀ w ∈ gt, w.before _ s = true := fun w hw => atoms_spec (ws := wz yX0_registerBehind cX0_registerBehind 3 (some .int)) B.pre w (List.mem_cons_of_mem _ hw)
  have hown : s.vm.findClass RX0 = some m.cls := findClass_of_methodNamed B.named
  have hlocks := B.notSynchronized
  have hA : ∀ q, A q → A q := fun _ h => h
  have hS : va_S A s.heap s.heap [] := va_S.rf
  have hS0 := hS
  have hl := lv_entry ([.ref p0, .int x1]) (n := 3) (Nat.le_of_ble_eq_true rfl)
  rw [lg_entry_eq]
  generalize (lg_sl ([.ref p0, .int x1]) ++ List.replicate (3 - (lg_sl ([.ref p0, .int x1])).length) Slot.unset).toArray = ls at hl ⊢
  have hl : lv_has ls 3 [(0, .ref p0), (1, .int x1)] := hl
  generalize hR : (f_X0_registerBehind p0_0 x1) = R
  rw [f_X0_registerBehind] at hR
  refine lv_aload_n hx hb dX0_registerBehind_0 rfl (lv_at hl 0 rfl) ?_
  refine lv_iload_n hx hb dX0_registerBehind_1 rfl (lv_at hl 1 rfl) ?_
  refine o_ViR (rest := []) (As := [.int x1]) (n := 1) hx hb hml hown hts hK hN hZ hW hS hA (c_X0_aliasAt l G A Ω p0 p0_0 x1 hB_p0 h_p0) (inBlk_o h_p0) rfl (good_V ml_X0_74 im_X0_aliasAt se_X0_aliasAt ini_X0 co_X0_aliasAt) (by decide +kernel) ⟨Nat.zero_le _, Nat.zero_le _⟩ hl.1 (Nat.le_of_ble_eq_true rfl) rfl rfl dX0_registerBehind_2 (fun r H locs hp hW hS => ?_)
  subst hp
  refine lv_istore_n (lv' := [(2, .int (f_X0_aliasAt p0_0 x1)), (0, .ref p0), (1, .int x1)]) hx hb dX0_registerBehind_5 rfl hl (by decide) rfl (fun ls hl => ?_)
  refine lv_iload_n hx hb dX0_registerBehind_6 rfl (lv_at hl 0 rfl) ?_
  refine lv_bipush (v := (-9 : Int32)) hx hb dX0_registerBehind_7 (by decide) ?_
  try have j_3 : (f_X0_aliasAt p0_0 x1).toInt = -9 ∨ (0 ≤ (f_X0_aliasAt p0_0 x1).toInt ∧ (f_X0_aliasAt p0_0 x1).toInt < 4) := R_aliasAt hB_p0 _
  have j_4 : (-9 : Int32).toInt = -9 := by decide
  refine lv_icmp_ne (tgt := 20) hx hb dX0_registerBehind_9 (by decide) (fun c_2 => ?_) (fun c_2 => ?_)
  · rw [if_neg c_2] at hR
    have i_2 := rne c_2
    refine lv_aload_n hx hb dX0_registerBehind_20 rfl (lv_at hl 1 rfl) ?_
    refine o_get hx hb hts hown hK hW (inBlk_o h_p0) rfl ig0 13 (by decide) fl_X0_42 rfl dX0_registerBehind_21 ?_
    refine lv_iload_n hx hb dX0_registerBehind_24 rfl (lv_at hl 0 rfl) ?_
    refine o_iald hx hb hK hW (inBlk_a10 h_p0) (vp_in_iff.mpr ⟨by omega, by omega⟩) dX0_registerBehind_25 ?_
    subst hR
    exact W.iret (v := ((p0_0 11) (f_X0_aliasAt p0_0 x1).toNatClampNeg)) hx hb hr (fun t ht hW9 => ⟨⟨((p0_0 11) (f_X0_aliasAt p0_0 x1).toNatClampNeg), Ω, rfl, ⟨rfl, rfl⟩, by rw [oB, ht]; exact hW⟩, hS.F ht⟩) hS.2.2 dX0_registerBehind_26
  · rw [if_pos c_2] at hR
    have i_2 := congrArg Int32.toInt c_2
    refine lv_aload_n hx hb dX0_registerBehind_12 rfl (lv_at hl 1 rfl) ?_
    refine lv_iload_n hx hb dX0_registerBehind_13 rfl (lv_at hl 2 rfl) ?_
    refine o_ViR (rest := []) (As := [.int x1]) (n := 1) hx hb hml hown hts hK hN hZ hW hS hA (c_X0_registerAt l G A Ω p0 p0_0 x1 hB_p0 h_p0) (inBlk_o h_p0) rfl (good_V ml_X0_71 im_X0_registerAt se_X0_registerAt ini_X0 co_X0_registerAt) (by decide +kernel) ⟨Nat.zero_le _, Nat.zero_le _⟩ hl.1 (Nat.le_of_ble_eq_true rfl) rfl rfl dX0_registerBehind_14 (fun r H locs hp hW hS => ?_)
    subst hp
    refine lv_goto (tgt := 26) hx hb dX0_registerBehind_17 (by decide) ?_
    subst hR
    exact W.iret (v := (f_X0_registerAt p0_0 x1)) hx hb hr (fun t ht hW9 => ⟨⟨(f_X0_registerAt p0_0 x1), Ω, rfl, ⟨rfl, rfl⟩, by rw [oB, ht]; exact hW⟩, hS.F ht⟩) hS.2.2 dX0_registerBehind_26
set_option maxHeartbeats 4000000 in
set_option maxRecDepth 100000 in
theorem c_X1_shown (l : Launch) (G : Gm) (A : Nat → Prop) (Ω : Om) (p0 : Nat) (p1 : Nat) (p0_0 : Fn) (p0_1 : Fn) (p0_2 : Fn) (p0_3 : Fn) (p1_0 : Blk) (x2 : Int32) (hB_p1 : BlkInv p1_0) (hi_x2 : 0 ≤ x2.toInt ∧ x2.toInt < 6) (h_p0 : inDev G Ω p0 p0_0 p0_1 p0_2 p0_3) (h_p1 : inBlk G Ω p1 p1_0) : Met l yX1_shown (wz yX1_shown cX1_shown 5 (some .int)) ({ frames := 0, cells := 0, slots := 0, locals := 0 } : Room) (va_Pc [.ref p0, .ref p1, .int x2] (oS G A Ω)) (va_Qi (fun (r : Int32) (Ω1 : Om) => r = (f_X1_shown p0_0 p0_3 p1_0 x2) ∧ Ω1 = Ω) (oB G A) A) 0 0 A := by
  refine Met.ofW (cc := cX1_shown) (maxL := 5) (ret := (some .int)) (by decide) rfl ?_
  intro p e s m args below meth c s₁ B hml hv
  obtain ⟨rfl, hW, hK, hN, hZ⟩ := hv
  have hx := B.exec
  have hb := B.bytes
  have hr := B.returns
  have hts : ∀ w ∈ gt, w.before _ s = true := fun w hw => atoms_spec (ws := wz yX1_shown cX1_shown 5 (some .int)) B.pre w (List.mem_cons_of_mem _ hw)
  have hown : s.vm.findClass RX1 = some m.cls := findClass_of_methodNamed B.named
  have hlocks := B.notSynchronized
  have hA : ∀ q, A q → A q := fun _ h => h
  have hS : va_S A s.heap s.heap [] := va_S.rf
  have hS0 := hS
  have hl := lv_entry ([.ref p0, .ref p1, .int x2]) (n := 5) (Nat.le_of_ble_eq_true rfl)
  rw [lg_entry_eq]
  generalize (lg_sl ([.ref p0, .ref p1, .int x2]) ++ List.replicate (5 - (lg_sl ([.ref p0, .ref p1, .int x2])).length) Slot.unset).toArray = ls at hl ⊢
  have hl : lv_has ls 5 [(0, .ref p0), (1, .ref p1), (2, .int x2)] := hl
  generalize hR : (f_X1_shown p0_0 p0_3 p1_0 x2) = R
  rw [f_X1_shown] at hR
  refine lv_aload_n hx hb dX1_shown_0 rfl (lv_at hl 0 rfl) ?_
  refine o_get hx hb hts hown hK hW (inDev_o h_p0) rfl ig1 0 (by decide) fl_X1_9 rfl dX1_shown_1 ?_
  refine lv_iload_n hx hb dX1_shown_4 rfl (lv_at hl 2 rfl) ?_
  refine o_iald hx hb hK hW (inDev_a0 h_p0) (vp_in_iff.mpr ⟨by omega, by omega⟩) dX1_shown_5 ?_
  refine lv_istore_n (lv' := [(3, .int (p0_0 x2.toNatClampNeg)), (0, .ref p0), (1, .ref p1), (2, .int x2)]) hx hb dX1_shown_6 rfl hl (by decide) rfl (fun ls hl => ?_)
  refine lv_iconst (v := (0 : Int32)) hx hb dX1_shown_7 (by decide) ?_
  refine lv_istore (lv' := [(4, .int (0 : Int32)), (3, .int (p0_0 x2.toNatClampNeg)), (0, .ref p0), (1, .ref p1), (2, .int x2)]) hx hb dX1_shown_8 hl (by decide) rfl (fun ls hl => ?_)
  have L10 : ∀ (n_2 : Nat) (x3_1 : Int32) (x4_1 : Int32) (H : Heap) (locs : List Loc), (0 ≤ x4_1.toInt ∧ x4_1.toInt ≤ 12 ∧ 12 - x4_1.toInt < n_2) → oW G A Ω H → va_S A s.heap H locs → ∀ ls : Array Slot, lv_has ls 5 [(0, .ref p0), (1, .ref p1), (2, .int x2), (3, .int x3_1), (4, .int x4_1)] → (f_X1_shown_L10 p0_3 p1_0 x2 n_2 x3_1 x4_1) = R → W p l e (headSpec (wz yX1_shown cX1_shown 5 (some .int)) ({ frames := 0, cells := 0, slots := 0, locals := 0 } : Room)).room s m ([.ref p0, .ref p1, .int x2] : List Value).toArray below meth c H locs 0 0 (MQ below (va_Qi (fun (r : Int32) (Ω1 : Om) => r = R ∧ Ω1 = Ω) (oB G A) A) ([.ref p0, .ref p1, .int x2] : List Value).toArray s 0 0 A) (F0 m 10 ls []) := by
    intro n_2
    induction n_2 with
    | zero =>
      intro x3_1 x4_1 H locs v_10_0 hW hS ls hl hR
      exfalso
      omega
    | succ n_2 ih10 =>
      intro x3_1 x4_1 H locs v_10_0 hW hS ls hl hR
      rw [f_X1_shown_L10] at hR
      refine lv_iload hx hb dX1_shown_10 (lv_at hl 4 rfl) ?_
      refine lv_aload_n hx hb dX1_shown_12 rfl (lv_at hl 1 rfl) ?_
      refine o_get hx hb hts hown hK hW (inBlk_o h_p1) rfl ig0 1 (by decide) fl_X1_36 rfl dX1_shown_13 ?_
      try have j_4 : 0 ≤ (p1_0 0 1).toInt ∧ (p1_0 0 1).toInt ≤ 12 := BI_flds (by assumption)
      refine lv_icmp_ge (tgt := 59) hx hb dX1_shown_16 (by decide) (fun c_3 => ?_) (fun c_3 => ?_)
      · rw [if_pos c_3] at hR
        have i_3 := rle c_3
        refine lv_iload_n hx hb dX1_shown_59 rfl (lv_at hl 3 rfl) ?_
        subst hR
        exact W.iret (v := x3_1) hx hb hr (fun t ht hW9 => ⟨⟨x3_1, Ω, rfl, ⟨rfl, rfl⟩, by rw [oB, ht]; exact hW⟩, hS.F ht⟩) hS.2.2 dX1_shown_60
      · rw [if_neg c_3] at hR
        have i_3 := rnle c_3
        refine lv_aload_n hx hb dX1_shown_19 rfl (lv_at hl 1 rfl) ?_
        refine o_get hx hb hts hown hK hW (inBlk_o h_p1) rfl ig0 6 (by decide) fl_X1_47 rfl dX1_shown_20 ?_
        refine lv_iload hx hb dX1_shown_23 (lv_at hl 4 rfl) ?_
        refine o_iald hx hb hK hW (inBlk_a3 h_p1) (vp_in_iff.mpr ⟨by omega, by omega⟩) dX1_shown_25 ?_
        refine lv_iload_n hx hb dX1_shown_26 rfl (lv_at hl 2 rfl) ?_
        try have j_6 : 0 ≤ ((p1_0 4) x4_1.toNatClampNeg).toInt ∧ ((p1_0 4) x4_1.toNatClampNeg).toInt < 6 := BI_owner hB_p1 _
        refine lv_icmp_ne (tgt := 53) hx hb dX1_shown_27 (by decide) (fun c_5 => ?_) (fun c_5 => ?_)
        · rw [if_neg c_5] at hR
          have i_5 := rne c_5
          refine lv_iinc (v := (x4_1 + (1 : Int32))) (lv' := [(4, .int (x4_1 + (1 : Int32))), (0, .ref p0), (1, .ref p1), (2, .int x2), (3, .int x3_1)]) hx hb dX1_shown_53 hl (k := 4) rfl rfl (by decide) rfl (fun ls hl => ?_)
          refine lv_goto (tgt := 10) hx hb dX1_shown_56 (by decide) ?_
          have j_7 : (1 : Int32).toInt = 1 := by decide
          try have j_8 : (x4_1 + (1 : Int32)).toInt = x4_1.toInt + (1 : Int32).toInt := fb_addI (by omega) (by omega)
          exact ih10 x3_1 (x4_1 + (1 : Int32)) H locs (by omega) hW hS ls (lv_sub hl [1, 2, 3, 4, 0] rfl) hR
        · rw [if_pos c_5] at hR
          have i_5 := congrArg Int32.toInt c_5
          refine lv_aload_n hx hb dX1_shown_30 rfl (lv_at hl 0 rfl) ?_
          refine o_get hx hb hts hown hK hW (inDev_o h_p0) rfl ig1 3 (by decide) fl_X1_22 rfl dX1_shown_31 ?_
          refine lv_iload hx hb dX1_shown_34 (lv_at hl 4 rfl) ?_
          refine o_iald hx hb hK hW (inDev_a3 h_p0) (vp_in_iff.mpr ⟨by omega, by omega⟩) dX1_shown_36 ?_
          refine lv_iconst (v := (2 : Int32)) hx hb dX1_shown_37 (by decide) ?_
          have j_10 : (2 : Int32).toInt = 2 := by decide
          refine lv_icmp_ne (tgt := 53) hx hb dX1_shown_38 (by decide) (fun c_9 => ?_) (fun c_9 => ?_)
          · rw [if_neg c_9] at hR
            have i_9 := rne c_9
            refine lv_iinc (v := (x4_1 + (1 : Int32))) (lv' := [(4, .int (x4_1 + (1 : Int32))), (0, .ref p0), (1, .ref p1), (2, .int x2), (3, .int x3_1)]) hx hb dX1_shown_53 hl (k := 4) rfl rfl (by decide) rfl (fun ls hl => ?_)
            refine lv_goto (tgt := 10) hx hb dX1_shown_56 (by decide) ?_
            have j_11 : (1 : Int32).toInt = 1 := by decide
            try have j_12 : (x4_1 + (1 : Int32)).toInt = x4_1.toInt + (1 : Int32).toInt := fb_addI (by omega) (by omega)
            exact ih10 x3_1 (x4_1 + (1 : Int32)) H locs (by omega) hW hS ls (lv_sub hl [1, 2, 3, 4, 0] rfl) hR
          · rw [if_pos c_9] at hR
            have i_9 := congrArg Int32.toInt c_9
            refine lv_iload_n hx hb dX1_shown_41 rfl (lv_at hl 3 rfl) ?_
            refine lv_aload_n hx hb dX1_shown_42 rfl (lv_at hl 1 rfl) ?_
            refine o_get hx hb hts hown hK hW (inBlk_o h_p1) rfl ig0 10 (by decide) fl_X1_50 rfl dX1_shown_43 ?_
            refine lv_iload hx hb dX1_shown_46 (lv_at hl 4 rfl) ?_
            refine o_iald hx hb hK hW (inBlk_a7 h_p1) (vp_in_iff.mpr ⟨by omega, by omega⟩) dX1_shown_48 ?_
            refine lv_iconst (v := (-1 : Int32)) hx hb dX1_shown_49 (by decide) ?_
            refine lv_ixor hx hb dX1_shown_50 ?_
            refine lv_iand hx hb dX1_shown_51 ?_
            refine lv_istore_n (lv' := [(3, .int (x3_1 &&& (((p1_0 8) x4_1.toNatClampNeg) ^^^ (-1 : Int32)))), (0, .ref p0), (1, .ref p1), (2, .int x2), (4, .int x4_1)]) hx hb dX1_shown_52 rfl hl (by decide) rfl (fun ls hl => ?_)
            refine lv_iinc (v := (x4_1 + (1 : Int32))) (lv' := [(4, .int (x4_1 + (1 : Int32))), (3, .int (x3_1 &&& (((p1_0 8) x4_1.toNatClampNeg) ^^^ (-1 : Int32)))), (0, .ref p0), (1, .ref p1), (2, .int x2)]) hx hb dX1_shown_53 hl (k := 4) rfl rfl (by decide) rfl (fun ls hl => ?_)
            refine lv_goto (tgt := 10) hx hb dX1_shown_56 (by decide) ?_
            have j_13 : (1 : Int32).toInt = 1 := by decide
            try have j_14 : (x4_1 + (1 : Int32)).toInt = x4_1.toInt + (1 : Int32).toInt := fb_addI (by omega) (by omega)
            exact ih10 (x3_1 &&& (((p1_0 8) x4_1.toNatClampNeg) ^^^ (-1 : Int32))) (x4_1 + (1 : Int32)) H locs (by omega) hW hS ls (lv_sub hl [2, 3, 4, 1, 0] rfl) hR
  have j_15 : (0 : Int32).toInt = 0 := by decide
  exact L10 4000 (p0_0 x2.toNatClampNeg) (0 : Int32) s.heap [] (by omega) hW hS ls (lv_sub hl [2, 3, 4, 1, 0] rfl) hR
set_option maxHeartbeats 4000000 in
set_option maxRecDepth 100000 in
theorem c_X1_look (l : Launch) (G : Gm) (A : Nat → Prop) (Ω : Om) (p0 : Nat) (p1 : Nat) (p0_0 : Fn) (p0_1 : Fn) (p0_2 : Fn) (p0_3 : Fn) (p1_0 : Blk) (x2 : Int32) (hB_p1 : BlkInv p1_0) (h_p0 : inDev G Ω p0 p0_0 p0_1 p0_2 p0_3) (h_p1 : inBlk G Ω p1 p1_0) : Met l yX1_look (wz yX1_look cX1_look 4 (some .int)) ({ frames := 3, cells := 0, slots := 0, locals := 66 } : Room) (va_Pc [.ref p0, .ref p1, .int x2] (oS G A Ω)) (va_Qi (fun (r : Int32) (Ω1 : Om) => r = (f_X1_look p0_0 p0_3 p1_0 x2) ∧ Ω1 = Ω) (oB G A) A) 0 0 A := by
  refine Met.ofW (cc := cX1_look) (maxL := 4) (ret := (some .int)) (by decide) rfl ?_
  intro p e s m args below meth c s₁ B hml hv
  obtain ⟨rfl, hW, hK, hN, hZ⟩ := hv
  have hx := B.exec
  have hb := B.bytes
  have hr := B.returns
  have hts : ∀ w ∈ gt, w.before _ s = true := fun w hw => atoms_spec (ws := wz yX1_look cX1_look 4 (some .int)) B.pre w (List.mem_cons_of_mem _ hw)
  have hown : s.vm.findClass RX1 = some m.cls := findClass_of_methodNamed B.named
  have hlocks := B.notSynchronized
  have hA : ∀ q, A q → A q := fun _ h => h
  have hS : va_S A s.heap s.heap [] := va_S.rf
  have hS0 := hS
  have hl := lv_entry ([.ref p0, .ref p1, .int x2]) (n := 4) (Nat.le_of_ble_eq_true rfl)
  rw [lg_entry_eq]
  generalize (lg_sl ([.ref p0, .ref p1, .int x2]) ++ List.replicate (4 - (lg_sl ([.ref p0, .ref p1, .int x2])).length) Slot.unset).toArray = ls at hl ⊢
  have hl : lv_has ls 4 [(0, .ref p0), (1, .ref p1), (2, .int x2)] := hl
  generalize hR : (f_X1_look p0_0 p0_3 p1_0 x2) = R
  rw [f_X1_look] at hR
  refine lv_aload_n hx hb dX1_look_0 rfl (lv_at hl 1 rfl) ?_
  refine lv_iload_n hx hb dX1_look_1 rfl (lv_at hl 2 rfl) ?_
  refine o_ViR (rest := []) (As := [.int x2]) (n := 1) hx hb hml hown hts hK hN hZ hW hS hA (c_X0_registerBehind l G A Ω p1 p1_0 x2 hB_p1 h_p1) (inBlk_o h_p1) rfl (good_V ml_X1_70 im_X0_registerBehind se_X0_registerBehind ini_X0 co_X0_registerBehind) (by decide +kernel) ⟨Nat.zero_le _, Nat.zero_le _⟩ hl.1 (Nat.le_of_ble_eq_true rfl) rfl rfl dX1_look_2 (fun r H locs hp hW hS => ?_)
  subst hp
  refine lv_istore_n (lv' := [(3, .int (f_X0_registerBehind p1_0 x2)), (0, .ref p0), (1, .ref p1), (2, .int x2)]) hx hb dX1_look_5 rfl hl (by decide) rfl (fun ls hl => ?_)
  refine lv_iload_n hx hb dX1_look_6 rfl (lv_at hl 0 rfl) ?_
  refine lv_bipush (v := (-9 : Int32)) hx hb dX1_look_7 (by decide) ?_
  try have j_3 : (f_X0_registerBehind p1_0 x2).toInt = -9 ∨ (0 ≤ (f_X0_registerBehind p1_0 x2).toInt ∧ (f_X0_registerBehind p1_0 x2).toInt < 6) := R_registerBehind hB_p1 _
  have j_4 : (-9 : Int32).toInt = -9 := by decide
  refine lv_icmp_ne (tgt := 16) hx hb dX1_look_9 (by decide) (fun c_2 => ?_) (fun c_2 => ?_)
  · rw [if_neg c_2] at hR
    have i_2 := rne c_2
    refine lv_aload_n hx hb dX1_look_16 rfl (lv_at hl 1 rfl) ?_
    refine lv_aload_n hx hb dX1_look_17 rfl (lv_at hl 2 rfl) ?_
    refine lv_iload_n hx hb dX1_look_18 rfl (lv_at hl 0 rfl) ?_
    refine o_ViR (rest := []) (As := [.ref p1, .int (f_X0_registerBehind p1_0 x2)]) (n := 2) hx hb hml hown hts hK hN hZ hW hS hA (c_X1_shown l G A Ω p0 p1 p0_0 p0_1 p0_2 p0_3 p1_0 (f_X0_registerBehind p1_0 x2) hB_p1 (by omega) h_p0 h_p1) (inDev_o h_p0) rfl (good_V ml_X1_74 im_X1_shown se_X1_shown ini_X1 co_X1_shown) (by decide +kernel) ⟨Nat.zero_le _, Nat.zero_le _⟩ hl.1 (Nat.le_of_ble_eq_true rfl) rfl rfl dX1_look_19 (fun r H locs hp hW hS => ?_)
    subst hp
    subst hR
    exact W.iret (v := (f_X1_shown p0_0 p0_3 p1_0 (f_X0_registerBehind p1_0 x2))) hx hb hr (fun t ht hW9 => ⟨⟨(f_X1_shown p0_0 p0_3 p1_0 (f_X0_registerBehind p1_0 x2)), Ω, rfl, ⟨rfl, rfl⟩, by rw [oB, ht]; exact hW⟩, hS.F ht⟩) hS.2.2 dX1_look_22
  · rw [if_pos c_2] at hR
    have i_2 := congrArg Int32.toInt c_2
    refine lv_iconst (v := (0 : Int32)) hx hb dX1_look_12 (by decide) ?_
    refine lv_goto (tgt := 22) hx hb dX1_look_13 (by decide) ?_
    subst hR
    exact W.iret (v := (0 : Int32)) hx hb hr (fun t ht hW9 => ⟨⟨(0 : Int32), Ω, rfl, ⟨rfl, rfl⟩, by rw [oB, ht]; exact hW⟩, hS.F ht⟩) hS.2.2 dX1_look_22
set_option maxHeartbeats 4000000 in
set_option maxRecDepth 100000 in
theorem c_X1_read (l : Launch) (G : Gm) (A : Nat → Prop) (Ω : Om) (p0 : Nat) (p1 : Nat) (p0_0 : Fn) (p0_1 : Fn) (p0_2 : Fn) (p0_3 : Fn) (p1_0 : Blk) (x2 : Int32) (hd_p0_p1 : p0 + 5 ≤ p1 ∨ p1 + 13 ≤ p0) (hB_p1 : BlkInv p1_0) (h_p0 : inDev G Ω p0 p0_0 p0_1 p0_2 p0_3) (h_p1 : inBlk G Ω p1 p1_0) : Met l yX1_read (wz yX1_read cX1_read 6 (some .int)) ({ frames := 4, cells := 0, slots := 0, locals := 89 } : Room) (va_Pc [.ref p0, .ref p1, .int x2] (oS G A Ω)) (va_Qi (fun (r : Int32) (Ω1 : Om) => r = (f_X1_read p0_0 p0_3 p1_0 x2).1 ∧ inDev G Ω1 p0 ((f_X1_read p0_0 p0_3 p1_0 x2).2) p0_1 p0_2 p0_3 ∧ (∀ q : Nat, (q < p0 ∨ p0 + 5 ≤ q) → Ω1 q = Ω q)) (oB G A) A) 0 0 A := by
  refine Met.ofW (cc := cX1_read) (maxL := 6) (ret := (some .int)) (by decide) rfl ?_
  intro p e s m args below meth c s₁ B hml hv
  obtain ⟨rfl, hW, hK, hN, hZ⟩ := hv
  have hx := B.exec
  have hb := B.bytes
  have hr := B.returns
  have hts : ∀ w ∈ gt, w.before _ s = true := fun w hw => atoms_spec (ws := wz yX1_read cX1_read 6 (some .int)) B.pre w (List.mem_cons_of_mem _ hw)
  have hown : s.vm.findClass RX1 = some m.cls := findClass_of_methodNamed B.named
  have hlocks := B.notSynchronized
  have hA : ∀ q, A q → A q := fun _ h => h
  have hS : va_S A s.heap s.heap [] := va_S.rf
  have hS0 := hS
  have hl := lv_entry ([.ref p0, .ref p1, .int x2]) (n := 6) (Nat.le_of_ble_eq_true rfl)
  rw [lg_entry_eq]
  generalize (lg_sl ([.ref p0, .ref p1, .int x2]) ++ List.replicate (6 - (lg_sl ([.ref p0, .ref p1, .int x2])).length) Slot.unset).toArray = ls at hl ⊢
  have hl : lv_has ls 6 [(0, .ref p0), (1, .ref p1), (2, .int x2)] := hl
  have hE : ∀ q : Nat, (q < p0 ∨ p0 + 5 ≤ q) → Ω q = Ω q := by intros; rfl
  generalize hR : (f_X1_read p0_0 p0_3 p1_0 x2) = R
  rw [f_X1_read] at hR
  refine lv_aload_n hx hb dX1_read_0 rfl (lv_at hl 0 rfl) ?_
  refine lv_aload_n hx hb dX1_read_1 rfl (lv_at hl 1 rfl) ?_
  refine lv_iload_n hx hb dX1_read_2 rfl (lv_at hl 2 rfl) ?_
  refine o_ViR (rest := []) (As := [.ref p1, .int x2]) (n := 2) hx hb hml hown hts hK hN hZ hW hS hA (c_X1_look l G A Ω p0 p1 p0_0 p0_1 p0_2 p0_3 p1_0 x2 hB_p1 h_p0 h_p1) (inDev_o h_p0) rfl (good_V ml_X1_77 im_X1_look se_X1_look ini_X1 co_X1_look) (by decide +kernel) ⟨Nat.zero_le _, Nat.zero_le _⟩ hl.1 (Nat.le_of_ble_eq_true rfl) rfl rfl dX1_read_3 (fun r H locs hp hW hS => ?_)
  subst hp
  refine lv_istore_n (lv' := [(3, .int (f_X1_look p0_0 p0_3 p1_0 x2)), (0, .ref p0), (1, .ref p1), (2, .int x2)]) hx hb dX1_read_6 rfl hl (by decide) rfl (fun ls hl => ?_)
  refine lv_aload_n hx hb dX1_read_7 rfl (lv_at hl 2 rfl) ?_
  refine lv_iload_n hx hb dX1_read_8 rfl (lv_at hl 3 rfl) ?_
  refine o_ViR (rest := []) (As := [.int x2]) (n := 1) hx hb hml hown hts hK hN hZ hW hS hA (c_X0_registerAt l G A Ω p1 p1_0 x2 hB_p1 h_p1) (inBlk_o h_p1) rfl (good_V ml_X1_80 im_X0_registerAt se_X0_registerAt ini_X0 co_X0_registerAt) (by decide +kernel) ⟨Nat.zero_le _, Nat.zero_le _⟩ hl.1 (Nat.le_of_ble_eq_true rfl) rfl rfl dX1_read_9 (fun r H locs hp hW hS => ?_)
  subst hp
  refine lv_istore (lv' := [(4, .int (f_X0_registerAt p1_0 x2)), (3, .int (f_X1_look p0_0 p0_3 p1_0 x2)), (0, .ref p0), (1, .ref p1), (2, .int x2)]) hx hb dX1_read_12 hl (by decide) rfl (fun ls hl => ?_)
  refine lv_iconst (v := (0 : Int32)) hx hb dX1_read_14 (by decide) ?_
  refine lv_istore (lv' := [(5, .int (0 : Int32)), (4, .int (f_X0_registerAt p1_0 x2)), (3, .int (f_X1_look p0_0 p0_3 p1_0 x2)), (0, .ref p0), (1, .ref p1), (2, .int x2)]) hx hb dX1_read_15 hl (by decide) rfl (fun ls hl => ?_)
  have L17 : ∀ (n_4 : Nat) (x5_3 : Int32) (p0_0_3 : Fn) (Ω_5 : Om) (H : Heap) (locs : List Loc), (0 ≤ x5_3.toInt ∧ x5_3.toInt ≤ 12 ∧ 12 - x5_3.toInt < n_4) → inDev G Ω_5 p0 p0_0_3 p0_1 p0_2 p0_3 → inBlk G Ω_5 p1 p1_0 → (∀ q : Nat, (q < p0 ∨ p0 + 5 ≤ q) → Ω_5 q = Ω q) → oW G A Ω_5 H → va_S A s.heap H locs → ∀ ls : Array Slot, lv_has ls 6 [(0, .ref p0), (1, .ref p1), (3, .int (f_X1_look p0_0 p0_3 p1_0 x2)), (4, .int (f_X0_registerAt p1_0 x2)), (5, .int x5_3)] → (f_X1_read_L17 p0_3 p1_0 (f_X1_look p0_0 p0_3 p1_0 x2) (f_X0_registerAt p1_0 x2) n_4 x5_3 p0_0_3) = R → W p l e (headSpec (wz yX1_read cX1_read 6 (some .int)) ({ frames := 4, cells := 0, slots := 0, locals := 89 } : Room)).room s m ([.ref p0, .ref p1, .int x2] : List Value).toArray below meth c H locs 0 0 (MQ below (va_Qi (fun (r : Int32) (Ω1 : Om) => r = R.1 ∧ inDev G Ω1 p0 (R.2) p0_1 p0_2 p0_3 ∧ (∀ q : Nat, (q < p0 ∨ p0 + 5 ≤ q) → Ω1 q = Ω q)) (oB G A) A) ([.ref p0, .ref p1, .int x2] : List Value).toArray s 0 0 A) (F0 m 17 ls []) := by
    intro n_4
    induction n_4 with
    | zero =>
      intro x5_3 p0_0_3 Ω_5 H locs v_17_0 h_p0 h_p1 hE hW hS ls hl hR
      exfalso
      omega
    | succ n_4 ih17 =>
      intro x5_3 p0_0_3 Ω_5 H locs v_17_0 h_p0 h_p1 hE hW hS ls hl hR
      rw [f_X1_read_L17] at hR
      refine lv_iload hx hb dX1_read_17 (lv_at hl 4 rfl) ?_
      refine lv_aload_n hx hb dX1_read_19 rfl (lv_at hl 1 rfl) ?_
      refine o_get hx hb hts hown hK hW (inBlk_o h_p1) rfl ig0 1 (by decide) fl_X1_36 rfl dX1_read_20 ?_
      try have j_7 : 0 ≤ (p1_0 0 1).toInt ∧ (p1_0 0 1).toInt ≤ 12 := BI_flds (by assumption)
      refine lv_icmp_ge (tgt := 64) hx hb dX1_read_23 (by decide) (fun c_6 => ?_) (fun c_6 => ?_)
      · rw [if_pos c_6] at hR
        have i_6 := rle c_6
        refine lv_iload_n hx hb dX1_read_64 rfl (lv_at hl 2 rfl) ?_
        subst hR
        exact W.iret (v := (f_X1_look p0_0 p0_3 p1_0 x2)) hx hb hr (fun t ht hW9 => ⟨⟨(f_X1_look p0_0 p0_3 p1_0 x2), Ω_5, rfl, ⟨rfl, h_p0, hE⟩, by rw [oB, ht]; exact hW⟩, hS.F ht⟩) hS.2.2 dX1_read_65
      · rw [if_neg c_6] at hR
        have i_6 := rnle c_6
        refine lv_aload_n hx hb dX1_read_26 rfl (lv_at hl 1 rfl) ?_
        refine o_get hx hb hts hown hK hW (inBlk_o h_p1) rfl ig0 6 (by decide) fl_X1_47 rfl dX1_read_27 ?_
        refine lv_iload hx hb dX1_read_30 (lv_at hl 4 rfl) ?_
        refine o_iald hx hb hK hW (inBlk_a3 h_p1) (vp_in_iff.mpr ⟨by omega, by omega⟩) dX1_read_32 ?_
        refine lv_iload hx hb dX1_read_33 (lv_at hl 3 rfl) ?_
        try have j_9 : 0 ≤ ((p1_0 4) x5_3.toNatClampNeg).toInt ∧ ((p1_0 4) x5_3.toNatClampNeg).toInt < 6 := BI_owner hB_p1 _
        try have j_10 : (f_X0_registerAt p1_0 x2).toInt = -9 ∨ (0 ≤ (f_X0_registerAt p1_0 x2).toInt ∧ (f_X0_registerAt p1_0 x2).toInt < 6) := R_registerAt hB_p1 _
        refine lv_icmp_ne (tgt := 58) hx hb dX1_read_35 (by decide) (fun c_8 => ?_) (fun c_8 => ?_)
        · rw [if_neg c_8] at hR
          have i_8 := rne c_8
          refine lv_iinc (v := (x5_3 + (1 : Int32))) (lv' := [(5, .int (x5_3 + (1 : Int32))), (0, .ref p0), (1, .ref p1), (3, .int (f_X1_look p0_0 p0_3 p1_0 x2)), (4, .int (f_X0_registerAt p1_0 x2))]) hx hb dX1_read_58 hl (k := 4) rfl rfl (by decide) rfl (fun ls hl => ?_)
          refine lv_goto (tgt := 17) hx hb dX1_read_61 (by decide) ?_
          have j_11 : (1 : Int32).toInt = 1 := by decide
          try have j_12 : (x5_3 + (1 : Int32)).toInt = x5_3.toInt + (1 : Int32).toInt := fb_addI (by omega) (by omega)
          exact ih17 (x5_3 + (1 : Int32)) p0_0_3 Ω_5 H locs (by omega) h_p0 h_p1 hE hW hS ls (lv_sub hl [1, 2, 3, 4, 0] rfl) hR
        · rw [if_pos c_8] at hR
          have i_8 := congrArg Int32.toInt c_8
          refine lv_aload_n hx hb dX1_read_38 rfl (lv_at hl 0 rfl) ?_
          refine o_get hx hb hts hown hK hW (inDev_o h_p0) rfl ig1 3 (by decide) fl_X1_22 rfl dX1_read_39 ?_
          refine lv_iload hx hb dX1_read_42 (lv_at hl 4 rfl) ?_
          refine o_iald hx hb hK hW (inDev_a3 h_p0) (vp_in_iff.mpr ⟨by omega, by omega⟩) dX1_read_44 ?_
          refine lv_bipush (v := (6 : Int32)) hx hb dX1_read_45 (by decide) ?_
          have j_14 : (6 : Int32).toInt = 6 := by decide
          refine lv_icmp_ne (tgt := 58) hx hb dX1_read_47 (by decide) (fun c_13 => ?_) (fun c_13 => ?_)
          · rw [if_neg c_13] at hR
            have i_13 := rne c_13
            refine lv_iinc (v := (x5_3 + (1 : Int32))) (lv' := [(5, .int (x5_3 + (1 : Int32))), (0, .ref p0), (1, .ref p1), (3, .int (f_X1_look p0_0 p0_3 p1_0 x2)), (4, .int (f_X0_registerAt p1_0 x2))]) hx hb dX1_read_58 hl (k := 4) rfl rfl (by decide) rfl (fun ls hl => ?_)
            refine lv_goto (tgt := 17) hx hb dX1_read_61 (by decide) ?_
            have j_15 : (1 : Int32).toInt = 1 := by decide
            try have j_16 : (x5_3 + (1 : Int32)).toInt = x5_3.toInt + (1 : Int32).toInt := fb_addI (by omega) (by omega)
            exact ih17 (x5_3 + (1 : Int32)) p0_0_3 Ω_5 H locs (by omega) h_p0 h_p1 hE hW hS ls (lv_sub hl [1, 2, 3, 4, 0] rfl) hR
          · rw [if_pos c_13] at hR
            have i_13 := congrArg Int32.toInt c_13
            refine lv_aload_n hx hb dX1_read_50 rfl (lv_at hl 0 rfl) ?_
            refine lv_aload_n hx hb dX1_read_51 rfl (lv_at hl 1 rfl) ?_
            refine lv_iload hx hb dX1_read_52 (lv_at hl 4 rfl) ?_
            refine lv_iconst (v := (0 : Int32)) hx hb dX1_read_54 (by decide) ?_
            have j_17 : (0 : Int32).toInt = 0 := by decide
            refine o_Vv (rest := []) (As := [.ref p1, .int x5_3, .int (0 : Int32)]) (n := 3) hx hb hml hown hts hK hN hZ hW hS hA (c_X1_putBits l G A Ω_5 p0 p1 p0_0_3 p0_1 p0_2 p0_3 p1_0 x5_3 (0 : Int32) (by omega) hB_p1 (by omega) h_p0 h_p1) (inDev_o h_p0) rfl (good_V ml_X1_56 im_X1_putBits se_X1_putBits ini_X1 co_X1_putBits) (by decide +kernel) ⟨Nat.zero_le _, Nat.zero_le _⟩ hl.1 (Nat.le_of_ble_eq_true rfl) rfl rfl dX1_read_55 (fun Ω_18 H locs hp hW hS => ?_)
            obtain ⟨h_p0, hF_18⟩ := hp
            have h_p1 := h_p1.keep (fun q h1 h2 => hF_18 q (by omega))
            have hE : ∀ q : Nat, (q < p0 ∨ p0 + 5 ≤ q) → Ω_18 q = Ω q := fun q g0 => (hF_18 q (by omega)).trans (hE q g0)
            refine lv_iinc (v := (x5_3 + (1 : Int32))) (lv' := [(5, .int (x5_3 + (1 : Int32))), (0, .ref p0), (1, .ref p1), (3, .int (f_X1_look p0_0 p0_3 p1_0 x2)), (4, .int (f_X0_registerAt p1_0 x2))]) hx hb dX1_read_58 hl (k := 4) rfl rfl (by decide) rfl (fun ls hl => ?_)
            refine lv_goto (tgt := 17) hx hb dX1_read_61 (by decide) ?_
            have j_19 : (1 : Int32).toInt = 1 := by decide
            try have j_20 : (x5_3 + (1 : Int32)).toInt = x5_3.toInt + (1 : Int32).toInt := fb_addI (by omega) (by omega)
            exact ih17 (x5_3 + (1 : Int32)) (f_X1_putBits p0_0_3 p1_0 x5_3 (0 : Int32)) Ω_18 H locs (by omega) h_p0 h_p1 hE hW hS ls (lv_sub hl [1, 2, 3, 4, 0] rfl) hR
  have j_21 : (0 : Int32).toInt = 0 := by decide
  exact L17 4000 (0 : Int32) p0_0 Ω H locs (by omega) h_p0 h_p1 hE hW hS ls (lv_sub hl [3, 4, 2, 1, 0] rfl) hR
set_option maxHeartbeats 4000000 in
set_option maxRecDepth 100000 in
theorem c_X1_learn (l : Launch) (G : Gm) (A : Nat → Prop) (Ω : Om) (p0 : Nat) (p1 : Nat) (p0_0 : Fn) (p0_1 : Fn) (p0_2 : Fn) (p0_3 : Fn) (p1_0 : Blk) (x2 : Int32) (x3 : Int32) (hd_p0_p1 : p0 + 5 ≤ p1 ∨ p1 + 13 ≤ p0) (hB_p1 : BlkInv p1_0) (h_p0 : inDev G Ω p0 p0_0 p0_1 p0_2 p0_3) (h_p1 : inBlk G Ω p1 p1_0) : Met l yX1_learn (wz yX1_learn cX1_learn 6 none) ({ frames := 3, cells := 0, slots := 0, locals := 66 } : Room) (va_Pc [.ref p0, .ref p1, .int x2, .int x3] (oS G A Ω)) (va_Qv (fun (Ω1 : Om) => inDev G Ω1 p0 ((f_X1_learn p0_0 p0_3 p1_0 x2 x3)) p0_1 p0_2 p0_3 ∧ (∀ q : Nat, (q < p0 ∨ p0 + 5 ≤ q) → Ω1 q = Ω q)) (oB G A) A) 0 0 A := by
  refine Met.ofW (cc := cX1_learn) (maxL := 6) (ret := none) (by decide) rfl ?_
  intro p e s m args below meth c s₁ B hml hv
  obtain ⟨rfl, hW, hK, hN, hZ⟩ := hv
  have hx := B.exec
  have hb := B.bytes
  have hr := B.returns
  have hts : ∀ w ∈ gt, w.before _ s = true := fun w hw => atoms_spec (ws := wz yX1_learn cX1_learn 6 none) B.pre w (List.mem_cons_of_mem _ hw)
  have hown : s.vm.findClass RX1 = some m.cls := findClass_of_methodNamed B.named
  have hlocks := B.notSynchronized
  have hA : ∀ q, A q → A q := fun _ h => h
  have hS : va_S A s.heap s.heap [] := va_S.rf
  have hS0 := hS
  have hl := lv_entry ([.ref p0, .ref p1, .int x2, .int x3]) (n := 6) (Nat.le_of_ble_eq_true rfl)
  rw [lg_entry_eq]
  generalize (lg_sl ([.ref p0, .ref p1, .int x2, .int x3]) ++ List.replicate (6 - (lg_sl ([.ref p0, .ref p1, .int x2, .int x3])).length) Slot.unset).toArray = ls at hl ⊢
  have hl : lv_has ls 6 [(0, .ref p0), (1, .ref p1), (2, .int x2), (3, .int x3)] := hl
  have hE : ∀ q : Nat, (q < p0 ∨ p0 + 5 ≤ q) → Ω q = Ω q := by intros; rfl
  generalize hR : (f_X1_learn p0_0 p0_3 p1_0 x2 x3) = R
  rw [f_X1_learn] at hR
  refine lv_aload_n hx hb dX1_learn_0 rfl (lv_at hl 1 rfl) ?_
  refine lv_iload_n hx hb dX1_learn_1 rfl (lv_at hl 2 rfl) ?_
  refine o_ViR (rest := []) (As := [.int x2]) (n := 1) hx hb hml hown hts hK hN hZ hW hS hA (c_X0_registerBehind l G A Ω p1 p1_0 x2 hB_p1 h_p1) (inBlk_o h_p1) rfl (good_V ml_X1_70 im_X0_registerBehind se_X0_registerBehind ini_X0 co_X0_registerBehind) (by decide +kernel) ⟨Nat.zero_le _, Nat.zero_le _⟩ hl.1 (Nat.le_of_ble_eq_true rfl) rfl rfl dX1_learn_2 (fun r H locs hp hW hS => ?_)
  subst hp
  refine lv_istore (lv' := [(4, .int (f_X0_registerBehind p1_0 x2)), (0, .ref p0), (1, .ref p1), (2, .int x2), (3, .int x3)]) hx hb dX1_learn_5 hl (by decide) rfl (fun ls hl => ?_)
  refine lv_iconst (v := (0 : Int32)) hx hb dX1_learn_7 (by decide) ?_
  refine lv_istore (lv' := [(5, .int (0 : Int32)), (4, .int (f_X0_registerBehind p1_0 x2)), (0, .ref p0), (1, .ref p1), (2, .int x2), (3, .int x3)]) hx hb dX1_learn_8 hl (by decide) rfl (fun ls hl => ?_)
  have L10 : ∀ (n_3 : Nat) (x5_2 : Int32) (p0_0_2 : Fn) (Ω_4 : Om) (H : Heap) (locs : List Loc), (0 ≤ x5_2.toInt ∧ x5_2.toInt ≤ 12 ∧ 12 - x5_2.toInt < n_3) → inDev G Ω_4 p0 p0_0_2 p0_1 p0_2 p0_3 → inBlk G Ω_4 p1 p1_0 → (∀ q : Nat, (q < p0 ∨ p0 + 5 ≤ q) → Ω_4 q = Ω q) → oW G A Ω_4 H → va_S A s.heap H locs → ∀ ls : Array Slot, lv_has ls 6 [(0, .ref p0), (1, .ref p1), (3, .int x3), (4, .int (f_X0_registerBehind p1_0 x2)), (5, .int x5_2)] → (f_X1_learn_L10 p0_3 p1_0 x3 (f_X0_registerBehind p1_0 x2) n_3 x5_2 p0_0_2) = R → W p l e (headSpec (wz yX1_learn cX1_learn 6 none) ({ frames := 3, cells := 0, slots := 0, locals := 66 } : Room)).room s m ([.ref p0, .ref p1, .int x2, .int x3] : List Value).toArray below meth c H locs 0 0 (MQ below (va_Qv (fun (Ω1 : Om) => inDev G Ω1 p0 (R) p0_1 p0_2 p0_3 ∧ (∀ q : Nat, (q < p0 ∨ p0 + 5 ≤ q) → Ω1 q = Ω q)) (oB G A) A) ([.ref p0, .ref p1, .int x2, .int x3] : List Value).toArray s 0 0 A) (F0 m 10 ls []) := by
    intro n_3
    induction n_3 with
    | zero =>
      intro x5_2 p0_0_2 Ω_4 H locs v_10_0 h_p0 h_p1 hE hW hS ls hl hR
      exfalso
      omega
    | succ n_3 ih10 =>
      intro x5_2 p0_0_2 Ω_4 H locs v_10_0 h_p0 h_p1 hE hW hS ls hl hR
      rw [f_X1_learn_L10] at hR
      refine lv_iload hx hb dX1_learn_10 (lv_at hl 4 rfl) ?_
      refine lv_aload_n hx hb dX1_learn_12 rfl (lv_at hl 1 rfl) ?_
      refine o_get hx hb hts hown hK hW (inBlk_o h_p1) rfl ig0 1 (by decide) fl_X1_36 rfl dX1_learn_13 ?_
      try have j_6 : 0 ≤ (p1_0 0 1).toInt ∧ (p1_0 0 1).toInt ≤ 12 := BI_flds (by assumption)
      refine lv_icmp_ge (tgt := 56) hx hb dX1_learn_16 (by decide) (fun c_5 => ?_) (fun c_5 => ?_)
      · rw [if_pos c_5] at hR
        have i_5 := rle c_5
        subst hR
        exact W.vret hx hb hr (fun t ht hW9 => ⟨⟨Ω_4, rfl, ⟨h_p0, hE⟩, by rw [oB, ht]; exact hW⟩, hS.F ht⟩) hS.2.2 dX1_learn_56
      · rw [if_neg c_5] at hR
        have i_5 := rnle c_5
        refine lv_aload_n hx hb dX1_learn_19 rfl (lv_at hl 1 rfl) ?_
        refine o_get hx hb hts hown hK hW (inBlk_o h_p1) rfl ig0 6 (by decide) fl_X1_47 rfl dX1_learn_20 ?_
        refine lv_iload hx hb dX1_learn_23 (lv_at hl 4 rfl) ?_
        refine o_iald hx hb hK hW (inBlk_a3 h_p1) (vp_in_iff.mpr ⟨by omega, by omega⟩) dX1_learn_25 ?_
        refine lv_iload hx hb dX1_learn_26 (lv_at hl 3 rfl) ?_
        try have j_8 : 0 ≤ ((p1_0 4) x5_2.toNatClampNeg).toInt ∧ ((p1_0 4) x5_2.toNatClampNeg).toInt < 6 := BI_owner hB_p1 _
        try have j_9 : (f_X0_registerBehind p1_0 x2).toInt = -9 ∨ (0 ≤ (f_X0_registerBehind p1_0 x2).toInt ∧ (f_X0_registerBehind p1_0 x2).toInt < 6) := R_registerBehind hB_p1 _
        refine lv_icmp_ne (tgt := 50) hx hb dX1_learn_28 (by decide) (fun c_7 => ?_) (fun c_7 => ?_)
        · rw [if_neg c_7] at hR
          have i_7 := rne c_7
          refine lv_iinc (v := (x5_2 + (1 : Int32))) (lv' := [(5, .int (x5_2 + (1 : Int32))), (0, .ref p0), (1, .ref p1), (3, .int x3), (4, .int (f_X0_registerBehind p1_0 x2))]) hx hb dX1_learn_50 hl (k := 4) rfl rfl (by decide) rfl (fun ls hl => ?_)
          refine lv_goto (tgt := 10) hx hb dX1_learn_53 (by decide) ?_
          have j_10 : (1 : Int32).toInt = 1 := by decide
          try have j_11 : (x5_2 + (1 : Int32)).toInt = x5_2.toInt + (1 : Int32).toInt := fb_addI (by omega) (by omega)
          exact ih10 (x5_2 + (1 : Int32)) p0_0_2 Ω_4 H locs (by omega) h_p0 h_p1 hE hW hS ls (lv_sub hl [1, 2, 3, 4, 0] rfl) hR
        · rw [if_pos c_7] at hR
          have i_7 := congrArg Int32.toInt c_7
          refine lv_aload_n hx hb dX1_learn_31 rfl (lv_at hl 0 rfl) ?_
          refine o_get hx hb hts hown hK hW (inDev_o h_p0) rfl ig1 3 (by decide) fl_X1_22 rfl dX1_learn_32 ?_
          refine lv_iload hx hb dX1_learn_35 (lv_at hl 4 rfl) ?_
          refine o_iald hx hb hK hW (inDev_a3 h_p0) (vp_in_iff.mpr ⟨by omega, by omega⟩) dX1_learn_37 ?_
          refine lv_iconst (v := (2 : Int32)) hx hb dX1_learn_38 (by decide) ?_
          have j_13 : (2 : Int32).toInt = 2 := by decide
          refine lv_icmp_eq (tgt := 50) hx hb dX1_learn_39 (by decide) (fun c_12 => ?_) (fun c_12 => ?_)
          · rw [if_pos c_12] at hR
            have i_12 := congrArg Int32.toInt c_12
            refine lv_iinc (v := (x5_2 + (1 : Int32))) (lv' := [(5, .int (x5_2 + (1 : Int32))), (0, .ref p0), (1, .ref p1), (3, .int x3), (4, .int (f_X0_registerBehind p1_0 x2))]) hx hb dX1_learn_50 hl (k := 4) rfl rfl (by decide) rfl (fun ls hl => ?_)
            refine lv_goto (tgt := 10) hx hb dX1_learn_53 (by decide) ?_
            have j_14 : (1 : Int32).toInt = 1 := by decide
            try have j_15 : (x5_2 + (1 : Int32)).toInt = x5_2.toInt + (1 : Int32).toInt := fb_addI (by omega) (by omega)
            exact ih10 (x5_2 + (1 : Int32)) p0_0_2 Ω_4 H locs (by omega) h_p0 h_p1 hE hW hS ls (lv_sub hl [1, 2, 3, 4, 0] rfl) hR
          · rw [if_neg c_12] at hR
            have i_12 := rne c_12
            refine lv_aload_n hx hb dX1_learn_42 rfl (lv_at hl 0 rfl) ?_
            refine lv_aload_n hx hb dX1_learn_43 rfl (lv_at hl 1 rfl) ?_
            refine lv_iload hx hb dX1_learn_44 (lv_at hl 4 rfl) ?_
            refine lv_iload_n hx hb dX1_learn_46 rfl (lv_at hl 2 rfl) ?_
            refine o_Vv (rest := []) (As := [.ref p1, .int x5_2, .int x3]) (n := 3) hx hb hml hown hts hK hN hZ hW hS hA (c_X1_putBits l G A Ω_4 p0 p1 p0_0_2 p0_1 p0_2 p0_3 p1_0 x5_2 x3 (by omega) hB_p1 (by omega) h_p0 h_p1) (inDev_o h_p0) rfl (good_V ml_X1_56 im_X1_putBits se_X1_putBits ini_X1 co_X1_putBits) (by decide +kernel) ⟨Nat.zero_le _, Nat.zero_le _⟩ hl.1 (Nat.le_of_ble_eq_true rfl) rfl rfl dX1_learn_47 (fun Ω_16 H locs hp hW hS => ?_)
            obtain ⟨h_p0, hF_16⟩ := hp
            have h_p1 := h_p1.keep (fun q h1 h2 => hF_16 q (by omega))
            have hE : ∀ q : Nat, (q < p0 ∨ p0 + 5 ≤ q) → Ω_16 q = Ω q := fun q g0 => (hF_16 q (by omega)).trans (hE q g0)
            refine lv_iinc (v := (x5_2 + (1 : Int32))) (lv' := [(5, .int (x5_2 + (1 : Int32))), (0, .ref p0), (1, .ref p1), (3, .int x3), (4, .int (f_X0_registerBehind p1_0 x2))]) hx hb dX1_learn_50 hl (k := 4) rfl rfl (by decide) rfl (fun ls hl => ?_)
            refine lv_goto (tgt := 10) hx hb dX1_learn_53 (by decide) ?_
            have j_17 : (1 : Int32).toInt = 1 := by decide
            try have j_18 : (x5_2 + (1 : Int32)).toInt = x5_2.toInt + (1 : Int32).toInt := fb_addI (by omega) (by omega)
            exact ih10 (x5_2 + (1 : Int32)) (f_X1_putBits p0_0_2 p1_0 x5_2 x3) Ω_16 H locs (by omega) h_p0 h_p1 hE hW hS ls (lv_sub hl [1, 2, 3, 4, 0] rfl) hR
  have j_19 : (0 : Int32).toInt = 0 := by decide
  exact L10 4000 (0 : Int32) p0_0 Ω H locs (by omega) h_p0 h_p1 hE hW hS ls (lv_sub hl [2, 3, 5, 1, 0] rfl) hR
set_option maxHeartbeats 4000000 in
set_option maxRecDepth 100000 in
theorem c_X3_append (l : Launch) (G : Gm) (A : Nat → Prop) (Ω : Om) (p0 : Nat) (p0_0 : Int32) (p0_1 : Fn) (p0_2 : Fn) (p0_3 : Fn) (x1 : Int32) (x2 : Int32) (x3 : Int32) (hJ_p0 : 0 ≤ p0_0.toInt ∧ p0_0.toInt ≤ 20) (h_p0 : inJou G Ω p0 p0_0 p0_1 p0_2 p0_3) : Met l yX3_append (wz yX3_append cX3_append 4 none) ({ frames := 0, cells := 0, slots := 0, locals := 0 } : Room) (va_Pc [.ref p0, .int x1, .int x2, .int x3] (oS G A Ω)) (va_Qv (fun (Ω1 : Om) => inJou G Ω1 p0 ((f_X3_append p0_0 p0_1 p0_2 p0_3 x1 x2 x3).1) ((f_X3_append p0_0 p0_1 p0_2 p0_3 x1 x2 x3).2.1) ((f_X3_append p0_0 p0_1 p0_2 p0_3 x1 x2 x3).2.2.1) ((f_X3_append p0_0 p0_1 p0_2 p0_3 x1 x2 x3).2.2.2) ∧ (∀ q : Nat, (q < p0 ∨ p0 + 4 ≤ q) → Ω1 q = Ω q)) (oB G A) A) 0 0 A := by
  refine Met.ofW (cc := cX3_append) (maxL := 4) (ret := none) (by decide) rfl ?_
  intro p e s m args below meth c s₁ B hml hv
  obtain ⟨rfl, hW, hK, hN, hZ⟩ := hv
  have hx := B.exec
  have hb := B.bytes
  have hr := B.returns
  have hts : ∀ w ∈ gt, w.before _ s = true := fun w hw => atoms_spec (ws := wz yX3_append cX3_append 4 none) B.pre w (List.mem_cons_of_mem _ hw)
  have hown : s.vm.findClass RX3 = some m.cls := findClass_of_methodNamed B.named
  have hlocks := B.notSynchronized
  have hA : ∀ q, A q → A q := fun _ h => h
  have hS : va_S A s.heap s.heap [] := va_S.rf
  have hS0 := hS
  have hl := lv_entry ([.ref p0, .int x1, .int x2, .int x3]) (n := 4) (Nat.le_of_ble_eq_true rfl)
  rw [lg_entry_eq]
  generalize (lg_sl ([.ref p0, .int x1, .int x2, .int x3]) ++ List.replicate (4 - (lg_sl ([.ref p0, .int x1, .int x2, .int x3])).length) Slot.unset).toArray = ls at hl ⊢
  have hl : lv_has ls 4 [(0, .ref p0), (1, .int x1), (2, .int x2), (3, .int x3)] := hl
  have hE : ∀ q : Nat, (q < p0 ∨ p0 + 4 ≤ q) → Ω q = Ω q := by intros; rfl
  generalize hR : (f_X3_append p0_0 p0_1 p0_2 p0_3 x1 x2 x3) = R
  rw [f_X3_append] at hR
  refine lv_aload_n hx hb dX3_append_0 rfl (lv_at hl 0 rfl) ?_
  refine o_get hx hb hts hown hK hW (inJou_o h_p0) rfl ig3 0 (by decide) fl_X3_22 rfl dX3_append_1 ?_
  refine lv_bipush (v := (20 : Int32)) hx hb dX3_append_4 (by decide) ?_
  have j_2 : (20 : Int32).toInt = 20 := by decide
  refine lv_icmp_lt (tgt := 10) hx hb dX3_append_6 (by decide) (fun c_1 => ?_) (fun c_1 => ?_)
  · rw [if_pos c_1] at hR
    have i_1 := rlt c_1
    refine lv_aload_n hx hb dX3_append_10 rfl (lv_at hl 0 rfl) ?_
    refine o_get hx hb hts hown hK hW (inJou_o h_p0) rfl ig3 1 (by decide) fl_X3_9 rfl dX3_append_11 ?_
    refine lv_aload_n hx hb dX3_append_14 rfl (lv_at hl 0 rfl) ?_
    refine o_get hx hb hts hown hK hW (inJou_o h_p0) rfl ig3 0 (by decide) fl_X3_22 rfl dX3_append_15 ?_
    refine lv_iload_n hx hb dX3_append_18 rfl (lv_at hl 1 rfl) ?_
    refine wJou_0 hx hb hK hW hS hA h_p0 (vp_in_iff.mpr ⟨by omega, by omega⟩) dX3_append_19 (fun Ω_3 H locs h_p0 hF_3 hW hS => ?_)
    have hE : ∀ q : Nat, (q < p0 ∨ p0 + 4 ≤ q) → Ω_3 q = Ω q := fun q g0 => (hF_3 q (by omega)).trans (hE q g0)
    refine lv_aload_n hx hb dX3_append_20 rfl (lv_at hl 0 rfl) ?_
    refine o_get hx hb hts hown hK hW (inJou_o h_p0) rfl ig3 2 (by decide) fl_X3_15 rfl dX3_append_21 ?_
    refine lv_aload_n hx hb dX3_append_24 rfl (lv_at hl 0 rfl) ?_
    refine o_get hx hb hts hown hK hW (inJou_o h_p0) rfl ig3 0 (by decide) fl_X3_22 rfl dX3_append_25 ?_
    refine lv_iload_n hx hb dX3_append_28 rfl (lv_at hl 2 rfl) ?_
    refine wJou_1 hx hb hK hW hS hA h_p0 (vp_in_iff.mpr ⟨by omega, by omega⟩) dX3_append_29 (fun Ω_4 H locs h_p0 hF_4 hW hS => ?_)
    have hE : ∀ q : Nat, (q < p0 ∨ p0 + 4 ≤ q) → Ω_4 q = Ω q := fun q g0 => (hF_4 q (by omega)).trans (hE q g0)
    refine lv_aload_n hx hb dX3_append_30 rfl (lv_at hl 0 rfl) ?_
    refine o_get hx hb hts hown hK hW (inJou_o h_p0) rfl ig3 3 (by decide) fl_X3_19 rfl dX3_append_31 ?_
    refine lv_aload_n hx hb dX3_append_34 rfl (lv_at hl 0 rfl) ?_
    refine o_get hx hb hts hown hK hW (inJou_o h_p0) rfl ig3 0 (by decide) fl_X3_22 rfl dX3_append_35 ?_
    refine lv_iload_n hx hb dX3_append_38 rfl (lv_at hl 3 rfl) ?_
    refine wJou_2 hx hb hK hW hS hA h_p0 (vp_in_iff.mpr ⟨by omega, by omega⟩) dX3_append_39 (fun Ω_5 H locs h_p0 hF_5 hW hS => ?_)
    have hE : ∀ q : Nat, (q < p0 ∨ p0 + 4 ≤ q) → Ω_5 q = Ω q := fun q g0 => (hF_5 q (by omega)).trans (hE q g0)
    refine lv_aload_n hx hb dX3_append_40 rfl (lv_at hl 0 rfl) ?_
    refine lv_dup hx hb dX3_append_41 rfl ?_
    refine o_get hx hb hts hown hK hW (inJou_o h_p0) rfl ig3 0 (by decide) fl_X3_22 rfl dX3_append_42 ?_
    refine lv_iconst (v := (1 : Int32)) hx hb dX3_append_45 (by decide) ?_
    refine lv_iadd hx hb dX3_append_46 ?_
    refine vJou_0 hx hb hts hown hK hW hS hA h_p0 fl_X3_22 dX3_append_47 (fun Ω_6 H locs h_p0 hF_6 hW hS => ?_)
    have hE : ∀ q : Nat, (q < p0 ∨ p0 + 4 ≤ q) → Ω_6 q = Ω q := fun q g0 => (hF_6 q (by omega)).trans (hE q g0)
    subst hR
    exact W.vret hx hb hr (fun t ht hW9 => ⟨⟨Ω_6, rfl, ⟨h_p0, hE⟩, by rw [oB, ht]; exact hW⟩, hS.F ht⟩) hS.2.2 dX3_append_50
  · rw [if_neg c_1] at hR
    have i_1 := rnlt c_1
    subst hR
    exact W.vret hx hb hr (fun t ht hW9 => ⟨⟨Ω, rfl, ⟨h_p0, hE⟩, by rw [oB, ht]; exact hW⟩, hS.F ht⟩) hS.2.2 dX3_append_9
set_option maxHeartbeats 4000000 in
set_option maxRecDepth 100000 in
theorem c_X5_performRead (l : Launch) (G : Gm) (A : Nat → Prop) (Ω : Om) (p0 : Nat) (p1 : Nat) (p0_0 : Int32) (p0_1 : Int32) (p0d_0 : Fn) (p0d_1 : Fn) (p0d_2 : Fn) (p0d_3 : Fn) (p0m_0 : Fn) (p0m_1 : Fn) (p0m_2 : Fn) (p0m_3 : Fn) (p0j_0 : Int32) (p0j_1 : Fn) (p0j_2 : Fn) (p0j_3 : Fn) (p1_0 : Blk) (x2 : Int32) (hd_p0_p1 : p0 + 15 ≤ p1 ∨ p1 + 13 ≤ p0) (hJ_p0j : 0 ≤ p0j_0.toInt ∧ p0j_0.toInt ≤ 20) (hB_p1 : BlkInv p1_0) (h_p0 : inSitO G Ω p0 p0_0 p0_1) (h_p0d : inDev G Ω (p0 + 1) p0d_0 p0d_1 p0d_2 p0d_3) (h_p0m : inDev G Ω (p0 + 6) p0m_0 p0m_1 p0m_2 p0m_3) (h_p0j : inJou G Ω (p0 + 11) p0j_0 p0j_1 p0j_2 p0j_3) (h_p1 : inBlk G Ω p1 p1_0) : Met l yX5_performRead (wz yX5_performRead cX5_performRead 4 (some .int)) ({ frames := 5, cells := 0, slots := 0, locals := 114 } : Room) (va_Pc [.ref p0, .ref p1, .int x2] (oS G A Ω)) (va_Qi (fun (r : Int32) (Ω1 : Om) => r = (f_X5_performRead p0_0 p0d_0 p0d_3 p0m_0 p0m_3 p0j_0 p0j_1 p0j_2 p0j_3 p1_0 x2).1 ∧ inSitO G Ω1 p0 ((f_X5_performRead p0_0 p0d_0 p0d_3 p0m_0 p0m_3 p0j_0 p0j_1 p0j_2 p0j_3 p1_0 x2).2.1) ((f_X5_performRead p0_0 p0d_0 p0d_3 p0m_0 p0m_3 p0j_0 p0j_1 p0j_2 p0j_3 p1_0 x2).2.2.1) ∧ inDev G Ω1 (p0 + 1) ((f_X5_performRead p0_0 p0d_0 p0d_3 p0m_0 p0m_3 p0j_0 p0j_1 p0j_2 p0j_3 p1_0 x2).2.2.2.1) p0d_1 p0d_2 p0d_3 ∧ inDev G Ω1 (p0 + 6) ((f_X5_performRead p0_0 p0d_0 p0d_3 p0m_0 p0m_3 p0j_0 p0j_1 p0j_2 p0j_3 p1_0 x2).2.2.2.2.1) p0m_1 p0m_2 p0m_3 ∧ inJou G Ω1 (p0 + 11) ((f_X5_performRead p0_0 p0d_0 p0d_3 p0m_0 p0m_3 p0j_0 p0j_1 p0j_2 p0j_3 p1_0 x2).2.2.2.2.2.1) ((f_X5_performRead p0_0 p0d_0 p0d_3 p0m_0 p0m_3 p0j_0 p0j_1 p0j_2 p0j_3 p1_0 x2).2.2.2.2.2.2.1) ((f_X5_performRead p0_0 p0d_0 p0d_3 p0m_0 p0m_3 p0j_0 p0j_1 p0j_2 p0j_3 p1_0 x2).2.2.2.2.2.2.2.1) ((f_X5_performRead p0_0 p0d_0 p0d_3 p0m_0 p0m_3 p0j_0 p0j_1 p0j_2 p0j_3 p1_0 x2).2.2.2.2.2.2.2.2) ∧ (∀ q : Nat, (q < p0 ∨ p0 + 1 ≤ q) → (q < (p0 + 1) ∨ (p0 + 1) + 5 ≤ q) → (q < (p0 + 6) ∨ (p0 + 6) + 5 ≤ q) → (q < (p0 + 11) ∨ (p0 + 11) + 4 ≤ q) → Ω1 q = Ω q)) (oB G A) A) 0 0 A := by
  refine Met.ofW (cc := cX5_performRead) (maxL := 4) (ret := (some .int)) (by decide) rfl ?_
  intro p e s m args below meth c s₁ B hml hv
  obtain ⟨rfl, hW, hK, hN, hZ⟩ := hv
  have hx := B.exec
  have hb := B.bytes
  have hr := B.returns
  have hts : ∀ w ∈ gt, w.before _ s = true := fun w hw => atoms_spec (ws := wz yX5_performRead cX5_performRead 4 (some .int)) B.pre w (List.mem_cons_of_mem _ hw)
  have hown : s.vm.findClass RX5 = some m.cls := findClass_of_methodNamed B.named
  have hlocks := B.notSynchronized
  have hA : ∀ q, A q → A q := fun _ h => h
  have hS : va_S A s.heap s.heap [] := va_S.rf
  have hS0 := hS
  have hl := lv_entry ([.ref p0, .ref p1, .int x2]) (n := 4) (Nat.le_of_ble_eq_true rfl)
  rw [lg_entry_eq]
  generalize (lg_sl ([.ref p0, .ref p1, .int x2]) ++ List.replicate (4 - (lg_sl ([.ref p0, .ref p1, .int x2])).length) Slot.unset).toArray = ls at hl ⊢
  have hl : lv_has ls 4 [(0, .ref p0), (1, .ref p1), (2, .int x2)] := hl
  have hE : ∀ q : Nat, (q < p0 ∨ p0 + 1 ≤ q) → (q < (p0 + 1) ∨ (p0 + 1) + 5 ≤ q) → (q < (p0 + 6) ∨ (p0 + 6) + 5 ≤ q) → (q < (p0 + 11) ∨ (p0 + 11) + 4 ≤ q) → Ω q = Ω q := by intros; rfl
  generalize hR : (f_X5_performRead p0_0 p0d_0 p0d_3 p0m_0 p0m_3 p0j_0 p0j_1 p0j_2 p0j_3 p1_0 x2) = R
  rw [f_X5_performRead] at hR
  refine lv_aload_n hx hb dX5_performRead_0 rfl (lv_at hl 0 rfl) ?_
  refine o_get hx hb hts hown hK hW (inSitO_o h_p0) rfl ig5 0 (by decide) fl_X5_12 rfl dX5_performRead_1 ?_
  refine lv_aload_n hx hb dX5_performRead_4 rfl (lv_at hl 1 rfl) ?_
  refine lv_iload_n hx hb dX5_performRead_5 rfl (lv_at hl 2 rfl) ?_
  refine o_Vi (rest := []) (As := [.ref p1, .int x2]) (n := 2) hx hb hml hown hts hK hN hZ hW hS hA (c_X1_read l G A Ω (p0 + 1) p1 p0d_0 p0d_1 p0d_2 p0d_3 p1_0 x2 (by omega) hB_p1 h_p0d h_p1) (inDev_o h_p0d) rfl (good_V ml_X5_53 im_X1_read se_X1_read ini_X1 co_X1_read) (by decide +kernel) ⟨Nat.zero_le _, Nat.zero_le _⟩ hl.1 (Nat.le_of_ble_eq_true rfl) rfl rfl dX5_performRead_6 (fun r Ω_1 H locs hp hW hS => ?_)
  obtain ⟨rfl, h_p0d, hF_1⟩ := hp
  have h_p0 := h_p0.keep (fun q h1 h2 => hF_1 q (by omega))
  have h_p0m := h_p0m.keep (fun q h1 h2 => hF_1 q (by omega))
  have h_p0j := h_p0j.keep (fun q h1 h2 => hF_1 q (by omega))
  have h_p1 := h_p1.keep (fun q h1 h2 => hF_1 q (by omega))
  have hE : ∀ q : Nat, (q < p0 ∨ p0 + 1 ≤ q) → (q < (p0 + 1) ∨ (p0 + 1) + 5 ≤ q) → (q < (p0 + 6) ∨ (p0 + 6) + 5 ≤ q) → (q < (p0 + 11) ∨ (p0 + 11) + 4 ≤ q) → Ω_1 q = Ω q := fun q g0 g1 g2 g3 => (hF_1 q (by omega)).trans (hE q g0 g1 g2 g3)
  generalize (f_X1_read p0d_0 p0d_3 p1_0 x2) = Z_1 at h_p0d hR ⊢
  obtain ⟨z1_0, z1_1⟩ := Z_1
  dsimp only at h_p0d hR ⊢
  rw [f_X5_performRead_C9] at hR
  refine lv_istore_n (lv' := [(3, .int z1_0), (0, .ref p0), (1, .ref p1), (2, .int x2)]) hx hb dX5_performRead_9 rfl hl (by decide) rfl (fun ls hl => ?_)
  refine lv_aload_n hx hb dX5_performRead_10 rfl (lv_at hl 1 rfl) ?_
  refine lv_iload_n hx hb dX5_performRead_11 rfl (lv_at hl 0 rfl) ?_
  refine lv_aload_n hx hb dX5_performRead_12 rfl (lv_at hl 1 rfl) ?_
  refine o_get hx hb hts hown hK hW (inSitO_o h_p0) rfl ig5 1 (by decide) fl_X5_18 rfl dX5_performRead_13 ?_
  refine lv_aload_n hx hb dX5_performRead_16 rfl (lv_at hl 2 rfl) ?_
  refine lv_iload_n hx hb dX5_performRead_17 rfl (lv_at hl 3 rfl) ?_
  refine o_ViR (rest := [.int z1_0, .ref p0]) (As := [.ref p1, .int x2]) (n := 2) hx hb hml hown hts hK hN hZ hW hS hA (c_X1_look l G A Ω_1 (p0 + 6) p1 p0m_0 p0m_1 p0m_2 p0m_3 p1_0 x2 hB_p1 h_p0m h_p1) (inDev_o h_p0m) rfl (good_V ml_X5_57 im_X1_look se_X1_look ini_X1 co_X1_look) (by decide +kernel) ⟨Nat.zero_le _, Nat.zero_le _⟩ hl.1 (Nat.le_of_ble_eq_true rfl) rfl rfl dX5_performRead_18 (fun r H locs hp hW hS => ?_)
  subst hp
  refine lv_ixor hx hb dX5_performRead_21 ?_
  refine vSitO_4 hx hb hts hown hK hW hS hA h_p0 fl_X5_28 dX5_performRead_22 (fun Ω_3 H locs h_p0 hF_3 hW hS => ?_)
  have h_p0d := h_p0d.keep (fun q h1 h2 => hF_3 q (by omega))
  have h_p0m := h_p0m.keep (fun q h1 h2 => hF_3 q (by omega))
  have h_p0j := h_p0j.keep (fun q h1 h2 => hF_3 q (by omega))
  have h_p1 := h_p1.keep (fun q h1 h2 => hF_3 q (by omega))
  have hE : ∀ q : Nat, (q < p0 ∨ p0 + 1 ≤ q) → (q < (p0 + 1) ∨ (p0 + 1) + 5 ≤ q) → (q < (p0 + 6) ∨ (p0 + 6) + 5 ≤ q) → (q < (p0 + 11) ∨ (p0 + 11) + 4 ≤ q) → Ω_3 q = Ω q := fun q g0 g1 g2 g3 => (hF_3 q (by omega)).trans (hE q g0 g1 g2 g3)
  refine lv_aload_n hx hb dX5_performRead_25 rfl (lv_at hl 1 rfl) ?_
  refine o_get hx hb hts hown hK hW (inSitO_o h_p0) rfl ig5 4 (by decide) fl_X5_28 rfl dX5_performRead_26 ?_
  have J42 : ∀ (p0_0_4 : Int32) (Ω_5 : Om) (H : Heap) (locs : List Loc), inSitO G Ω_5 p0 p0_0_4 (z1_0 ^^^ (f_X1_look p0m_0 p0m_3 p1_0 x2)) → inDev G Ω_5 (p0 + 1) z1_1 p0d_1 p0d_2 p0d_3 → inDev G Ω_5 (p0 + 6) p0m_0 p0m_1 p0m_2 p0m_3 → inJou G Ω_5 (p0 + 11) p0j_0 p0j_1 p0j_2 p0j_3 → inBlk G Ω_5 p1 p1_0 → (∀ q : Nat, (q < p0 ∨ p0 + 1 ≤ q) → (q < (p0 + 1) ∨ (p0 + 1) + 5 ≤ q) → (q < (p0 + 6) ∨ (p0 + 6) + 5 ≤ q) → (q < (p0 + 11) ∨ (p0 + 11) + 4 ≤ q) → Ω_5 q = Ω q) → oW G A Ω_5 H → va_S A s.heap H locs → ∀ ls : Array Slot, lv_has ls 4 [(0, .ref p0), (1, .ref p1), (2, .int x2), (3, .int z1_0)] → (f_X5_performRead_J42 (z1_0 ^^^ (f_X1_look p0m_0 p0m_3 p1_0 x2)) z1_1 p0m_0 p0m_3 p0j_0 p0j_1 p0j_2 p0j_3 p1_0 x2 z1_0 p0_0_4) = R → W p l e (headSpec (wz yX5_performRead cX5_performRead 4 (some .int)) ({ frames := 5, cells := 0, slots := 0, locals := 114 } : Room)).room s m ([.ref p0, .ref p1, .int x2] : List Value).toArray below meth c H locs 0 0 (MQ below (va_Qi (fun (r : Int32) (Ω1 : Om) => r = R.1 ∧ inSitO G Ω1 p0 (R.2.1) (R.2.2.1) ∧ inDev G Ω1 (p0 + 1) (R.2.2.2.1) p0d_1 p0d_2 p0d_3 ∧ inDev G Ω1 (p0 + 6) (R.2.2.2.2.1) p0m_1 p0m_2 p0m_3 ∧ inJou G Ω1 (p0 + 11) (R.2.2.2.2.2.1) (R.2.2.2.2.2.2.1) (R.2.2.2.2.2.2.2.1) (R.2.2.2.2.2.2.2.2) ∧ (∀ q : Nat, (q < p0 ∨ p0 + 1 ≤ q) → (q < (p0 + 1) ∨ (p0 + 1) + 5 ≤ q) → (q < (p0 + 6) ∨ (p0 + 6) + 5 ≤ q) → (q < (p0 + 11) ∨ (p0 + 11) + 4 ≤ q) → Ω1 q = Ω q)) (oB G A) A) ([.ref p0, .ref p1, .int x2] : List Value).toArray s 0 0 A) (F0 m 42 ls []) := by
    intro p0_0_4 Ω_5 H locs h_p0 h_p0d h_p0m h_p0j h_p1 hE hW hS ls hl hR
    rw [f_X5_performRead_J42] at hR
    refine lv_aload_n hx hb dX5_performRead_42 rfl (lv_at hl 0 rfl) ?_
    refine o_get hx hb hts hown hK hW (inSitO_o h_p0) rfl ig5 1 (by decide) fl_X5_18 rfl dX5_performRead_43 ?_
    refine lv_aload_n hx hb dX5_performRead_46 rfl (lv_at hl 1 rfl) ?_
    refine lv_iload_n hx hb dX5_performRead_47 rfl (lv_at hl 2 rfl) ?_
    refine lv_iload_n hx hb dX5_performRead_48 rfl (lv_at hl 3 rfl) ?_
    refine o_Vv (rest := []) (As := [.ref p1, .int x2, .int z1_0]) (n := 3) hx hb hml hown hts hK hN hZ hW hS hA (c_X1_learn l G A Ω_5 (p0 + 6) p1 p0m_0 p0m_1 p0m_2 p0m_3 p1_0 x2 z1_0 (by omega) hB_p1 h_p0m h_p1) (inDev_o h_p0m) rfl (good_V ml_X5_60 im_X1_learn se_X1_learn ini_X1 co_X1_learn) (by decide +kernel) ⟨Nat.zero_le _, Nat.zero_le _⟩ hl.1 (Nat.le_of_ble_eq_true rfl) rfl rfl dX5_performRead_49 (fun Ω_6 H locs hp hW hS => ?_)
    obtain ⟨h_p0m, hF_6⟩ := hp
    have h_p0 := h_p0.keep (fun q h1 h2 => hF_6 q (by omega))
    have h_p0d := h_p0d.keep (fun q h1 h2 => hF_6 q (by omega))
    have h_p0j := h_p0j.keep (fun q h1 h2 => hF_6 q (by omega))
    have h_p1 := h_p1.keep (fun q h1 h2 => hF_6 q (by omega))
    have hE : ∀ q : Nat, (q < p0 ∨ p0 + 1 ≤ q) → (q < (p0 + 1) ∨ (p0 + 1) + 5 ≤ q) → (q < (p0 + 6) ∨ (p0 + 6) + 5 ≤ q) → (q < (p0 + 11) ∨ (p0 + 11) + 4 ≤ q) → Ω_6 q = Ω q := fun q g0 g1 g2 g3 => (hF_6 q (by omega)).trans (hE q g0 g1 g2 g3)
    refine lv_aload_n hx hb dX5_performRead_52 rfl (lv_at hl 0 rfl) ?_
    refine o_get hx hb hts hown hK hW (inSitO_o h_p0) rfl ig5 1 (by decide) fl_X5_18 rfl dX5_performRead_53 ?_
    refine lv_aload_n hx hb dX5_performRead_56 rfl (lv_at hl 1 rfl) ?_
    refine lv_iload_n hx hb dX5_performRead_57 rfl (lv_at hl 2 rfl) ?_
    refine o_Vi (rest := []) (As := [.ref p1, .int x2]) (n := 2) hx hb hml hown hts hK hN hZ hW hS hA (c_X1_read l G A Ω_6 (p0 + 6) p1 (f_X1_learn p0m_0 p0m_3 p1_0 x2 z1_0) p0m_1 p0m_2 p0m_3 p1_0 x2 (by omega) hB_p1 h_p0m h_p1) (inDev_o h_p0m) rfl (good_V ml_X5_53 im_X1_read se_X1_read ini_X1 co_X1_read) (by decide +kernel) ⟨Nat.zero_le _, Nat.zero_le _⟩ hl.1 (Nat.le_of_ble_eq_true rfl) rfl rfl dX5_performRead_58 (fun r Ω_7 H locs hp hW hS => ?_)
    obtain ⟨rfl, h_p0m, hF_7⟩ := hp
    have h_p0 := h_p0.keep (fun q h1 h2 => hF_7 q (by omega))
    have h_p0d := h_p0d.keep (fun q h1 h2 => hF_7 q (by omega))
    have h_p0j := h_p0j.keep (fun q h1 h2 => hF_7 q (by omega))
    have h_p1 := h_p1.keep (fun q h1 h2 => hF_7 q (by omega))
    have hE : ∀ q : Nat, (q < p0 ∨ p0 + 1 ≤ q) → (q < (p0 + 1) ∨ (p0 + 1) + 5 ≤ q) → (q < (p0 + 6) ∨ (p0 + 6) + 5 ≤ q) → (q < (p0 + 11) ∨ (p0 + 11) + 4 ≤ q) → Ω_7 q = Ω q := fun q g0 g1 g2 g3 => (hF_7 q (by omega)).trans (hE q g0 g1 g2 g3)
    generalize (f_X1_read (f_X1_learn p0m_0 p0m_3 p1_0 x2 z1_0) p0m_3 p1_0 x2) = Z_7 at h_p0m hR ⊢
    obtain ⟨z7_0, z7_1⟩ := Z_7
    dsimp only at h_p0m hR ⊢
    rw [f_X5_performRead_C61] at hR
    refine lv_pop hx hb dX5_performRead_61 rfl ?_
    refine lv_aload_n hx hb dX5_performRead_62 rfl (lv_at hl 0 rfl) ?_
    refine o_get hx hb hts hown hK hW (inSitO_o h_p0) rfl ig5 2 (by decide) fl_X5_24 rfl dX5_performRead_63 ?_
    refine lv_iload_n hx hb dX5_performRead_66 rfl (lv_at hl 2 rfl) ?_
    refine lv_iconst (v := (0 : Int32)) hx hb dX5_performRead_67 (by decide) ?_
    refine lv_iload_n hx hb dX5_performRead_68 rfl (lv_at hl 3 rfl) ?_
    have j_8 : (0 : Int32).toInt = 0 := by decide
    refine o_Vv (rest := []) (As := [.int x2, .int (0 : Int32), .int z1_0]) (n := 3) hx hb hml hown hts hK hN hZ hW hS hA (c_X3_append l G A Ω_7 (p0 + 11) p0j_0 p0j_1 p0j_2 p0j_3 x2 (0 : Int32) z1_0 (by omega) h_p0j) (inJou_o h_p0j) rfl (good_V ml_X5_64 im_X3_append se_X3_append ini_X3 co_X3_append) (by decide +kernel) ⟨Nat.zero_le _, Nat.zero_le _⟩ hl.1 (Nat.le_of_ble_eq_true rfl) rfl rfl dX5_performRead_69 (fun Ω_9 H locs hp hW hS => ?_)
    obtain ⟨h_p0j, hF_9⟩ := hp
    have h_p0 := h_p0.keep (fun q h1 h2 => hF_9 q (by omega))
    have h_p0d := h_p0d.keep (fun q h1 h2 => hF_9 q (by omega))
    have h_p0m := h_p0m.keep (fun q h1 h2 => hF_9 q (by omega))
    have h_p1 := h_p1.keep (fun q h1 h2 => hF_9 q (by omega))
    have hE : ∀ q : Nat, (q < p0 ∨ p0 + 1 ≤ q) → (q < (p0 + 1) ∨ (p0 + 1) + 5 ≤ q) → (q < (p0 + 6) ∨ (p0 + 6) + 5 ≤ q) → (q < (p0 + 11) ∨ (p0 + 11) + 4 ≤ q) → Ω_9 q = Ω q := fun q g0 g1 g2 g3 => (hF_9 q (by omega)).trans (hE q g0 g1 g2 g3)
    generalize (f_X3_append p0j_0 p0j_1 p0j_2 p0j_3 x2 (0 : Int32) z1_0) = Z_9 at h_p0j hR
    obtain ⟨z9_0, z9_1, z9_2, z9_3⟩ := Z_9
    dsimp only at h_p0j hR
    rw [f_X5_performRead_C72] at hR
    refine lv_iload_n hx hb dX5_performRead_72 rfl (lv_at hl 3 rfl) ?_
    subst hR
    exact W.iret (v := z1_0) hx hb hr (fun t ht hW9 => ⟨⟨z1_0, Ω_9, rfl, ⟨rfl, h_p0, h_p0d, h_p0m, h_p0j, hE⟩, by rw [oB, ht]; exact hW⟩, hS.F ht⟩) hS.2.2 dX5_performRead_73
  have j_11 : (0 : Int32).toInt = 0 := by decide
  refine lv_if_eq (tgt := 42) hx hb dX5_performRead_29 (by decide) (fun c_10 => ?_) (fun c_10 => ?_)
  · rw [if_pos c_10] at hR
    have i_10 := congrArg Int32.toInt c_10
    exact J42 p0_0 Ω_3 H locs h_p0 h_p0d h_p0m h_p0j h_p1 hE hW hS ls (lv_sub hl [1, 2, 3, 0] rfl) hR
  · rw [if_neg c_10] at hR
    have i_10 := rne c_10
    refine lv_aload_n hx hb dX5_performRead_32 rfl (lv_at hl 1 rfl) ?_
    refine lv_dup hx hb dX5_performRead_33 rfl ?_
    refine o_get hx hb hts hown hK hW (inSitO_o h_p0) rfl ig5 3 (by decide) fl_X5_39 rfl dX5_performRead_34 ?_
    refine lv_iconst (v := (1 : Int32)) hx hb dX5_performRead_37 (by decide) ?_
    refine lv_iadd hx hb dX5_performRead_38 ?_
    refine vSitO_3 hx hb hts hown hK hW hS hA h_p0 fl_X5_39 dX5_performRead_39 (fun Ω_12 H locs h_p0 hF_12 hW hS => ?_)
    have h_p0d := h_p0d.keep (fun q h1 h2 => hF_12 q (by omega))
    have h_p0m := h_p0m.keep (fun q h1 h2 => hF_12 q (by omega))
    have h_p0j := h_p0j.keep (fun q h1 h2 => hF_12 q (by omega))
    have h_p1 := h_p1.keep (fun q h1 h2 => hF_12 q (by omega))
    have hE : ∀ q : Nat, (q < p0 ∨ p0 + 1 ≤ q) → (q < (p0 + 1) ∨ (p0 + 1) + 5 ≤ q) → (q < (p0 + 6) ∨ (p0 + 6) + 5 ≤ q) → (q < (p0 + 11) ∨ (p0 + 11) + 4 ≤ q) → Ω_12 q = Ω q := fun q g0 g1 g2 g3 => (hF_12 q (by omega)).trans (hE q g0 g1 g2 g3)
    have j_13 : (1 : Int32).toInt = 1 := by decide
    try have j_14 : (p0_0 + (1 : Int32)).toInt = p0_0.toInt + (1 : Int32).toInt := fb_addI (by omega) (by omega)
    exact J42 (p0_0 + (1 : Int32)) Ω_12 H locs h_p0 h_p0d h_p0m h_p0j h_p1 hE hW hS ls (lv_sub hl [1, 2, 3, 0] rfl) hR
set_option maxHeartbeats 4000000 in
set_option maxRecDepth 100000 in
theorem c_X1_copyFrom (l : Launch) (G : Gm) (A : Nat → Prop) (Ω : Om) (p0 : Nat) (p1 : Nat) (p0_0 : Fn) (p0_1 : Fn) (p0_2 : Fn) (p0_3 : Fn) (p1_0 : Fn) (p1_1 : Fn) (p1_2 : Fn) (p1_3 : Fn) (hd_p0_p1 : p0 + 5 ≤ p1 ∨ p1 + 5 ≤ p0) (h_p0 : inDev G Ω p0 p0_0 p0_1 p0_2 p0_3) (h_p1 : inDev G Ω p1 p1_0 p1_1 p1_2 p1_3) : Met l yX1_copyFrom (wz yX1_copyFrom cX1_copyFrom 3 none) ({ frames := 1, cells := 0, slots := 0, locals := 60 } : Room) (va_Pc [.ref p0, .ref p1] (oS G A Ω)) (va_Qv (fun (Ω1 : Om) => inDev G Ω1 p0 ((f_X1_copyFrom p0_0 p0_1 p0_2 p0_3 p1_0 p1_1 p1_2 p1_3).1) ((f_X1_copyFrom p0_0 p0_1 p0_2 p0_3 p1_0 p1_1 p1_2 p1_3).2.1) ((f_X1_copyFrom p0_0 p0_1 p0_2 p0_3 p1_0 p1_1 p1_2 p1_3).2.2.1) ((f_X1_copyFrom p0_0 p0_1 p0_2 p0_3 p1_0 p1_1 p1_2 p1_3).2.2.2) ∧ (∀ q : Nat, (q < p0 ∨ p0 + 5 ≤ q) → Ω1 q = Ω q)) (oB G A) A) 0 0 A := by
  refine Met.ofW (cc := cX1_copyFrom) (maxL := 3) (ret := none) (by decide) rfl ?_
  intro p e s m args below meth c s₁ B hml hv
  obtain ⟨rfl, hW, hK, hN, hZ⟩ := hv
  have hx := B.exec
  have hb := B.bytes
  have hr := B.returns
  have hts : ∀ w ∈ gt, w.before _ s = true := fun w hw => atoms_spec (ws := wz yX1_copyFrom cX1_copyFrom 3 none) B.pre w (List.mem_cons_of_mem _ hw)
  have hown : s.vm.findClass RX1 = some m.cls := findClass_of_methodNamed B.named
  have hlocks := B.notSynchronized
  have hA : ∀ q, A q → A q := fun _ h => h
  have hS : va_S A s.heap s.heap [] := va_S.rf
  have hS0 := hS
  have hl := lv_entry ([.ref p0, .ref p1]) (n := 3) (Nat.le_of_ble_eq_true rfl)
  rw [lg_entry_eq]
  generalize (lg_sl ([.ref p0, .ref p1]) ++ List.replicate (3 - (lg_sl ([.ref p0, .ref p1])).length) Slot.unset).toArray = ls at hl ⊢
  have hl : lv_has ls 3 [(0, .ref p0), (1, .ref p1)] := hl
  have hE : ∀ q : Nat, (q < p0 ∨ p0 + 5 ≤ q) → Ω q = Ω q := by intros; rfl
  generalize hR : (f_X1_copyFrom p0_0 p0_1 p0_2 p0_3 p1_0 p1_1 p1_2 p1_3) = R
  rw [f_X1_copyFrom] at hR
  refine lv_iconst (v := (0 : Int32)) hx hb dX1_copyFrom_0 (by decide) ?_
  refine lv_istore_n (lv' := [(2, .int (0 : Int32)), (0, .ref p0), (1, .ref p1)]) hx hb dX1_copyFrom_1 rfl hl (by decide) rfl (fun ls hl => ?_)
  have L2 : ∀ (n_2 : Nat) (x2_1 : Int32) (p0_0_1 : Fn) (p0_1_1 : Fn) (p0_2_1 : Fn) (Ω_3 : Om) (H : Heap) (locs : List Loc), (0 ≤ x2_1.toInt ∧ x2_1.toInt ≤ 6 ∧ 6 - x2_1.toInt < n_2) → inDev G Ω_3 p0 p0_0_1 p0_1_1 p0_2_1 p0_3 → inDev G Ω_3 p1 p1_0 p1_1 p1_2 p1_3 → (∀ q : Nat, (q < p0 ∨ p0 + 5 ≤ q) → Ω_3 q = Ω q) → oW G A Ω_3 H → va_S A s.heap H locs → ∀ ls : Array Slot, lv_has ls 3 [(0, .ref p0), (1, .ref p1), (2, .int x2_1)] → (f_X1_copyFrom_L2 p0_3 p1_0 p1_1 p1_2 p1_3 n_2 x2_1 p0_0_1 p0_1_1 p0_2_1) = R → W p l e (headSpec (wz yX1_copyFrom cX1_copyFrom 3 none) ({ frames := 1, cells := 0, slots := 0, locals := 60 } : Room)).room s m ([.ref p0, .ref p1] : List Value).toArray below meth c H locs 0 0 (MQ below (va_Qv (fun (Ω1 : Om) => inDev G Ω1 p0 (R.1) (R.2.1) (R.2.2.1) (R.2.2.2) ∧ (∀ q : Nat, (q < p0 ∨ p0 + 5 ≤ q) → Ω1 q = Ω q)) (oB G A) A) ([.ref p0, .ref p1] : List Value).toArray s 0 0 A) (F0 m 2 ls []) := by
    intro n_2
    induction n_2 with
    | zero =>
      intro x2_1 p0_0_1 p0_1_1 p0_2_1 Ω_3 H locs v_2_0 h_p0 h_p1 hE hW hS ls hl hR
      exfalso
      omega
    | succ n_2 ih2 =>
      intro x2_1 p0_0_1 p0_1_1 p0_2_1 Ω_3 H locs v_2_0 h_p0 h_p1 hE hW hS ls hl hR
      rw [f_X1_copyFrom_L2] at hR
      refine lv_iload_n hx hb dX1_copyFrom_2 rfl (lv_at hl 2 rfl) ?_
      refine lv_bipush (v := (6 : Int32)) hx hb dX1_copyFrom_3 (by decide) ?_
      have j_5 : (6 : Int32).toInt = 6 := by decide
      refine lv_icmp_ge (tgt := 50) hx hb dX1_copyFrom_5 (by decide) (fun c_4 => ?_) (fun c_4 => ?_)
      · rw [if_pos c_4] at hR
        have i_4 := rle c_4
        refine lv_aload_n hx hb dX1_copyFrom_50 rfl (lv_at hl 1 rfl) ?_
        refine o_get hx hb hts hown hK hW (inDev_o h_p1) rfl ig1 3 (by decide) fl_X1_22 rfl dX1_copyFrom_51 ?_
        refine lv_iconst (v := (0 : Int32)) hx hb dX1_copyFrom_54 (by decide) ?_
        refine lv_aload_n hx hb dX1_copyFrom_55 rfl (lv_at hl 0 rfl) ?_
        refine o_get hx hb hts hown hK hW (inDev_o h_p0) rfl ig1 3 (by decide) fl_X1_22 rfl dX1_copyFrom_56 ?_
        refine lv_iconst (v := (0 : Int32)) hx hb dX1_copyFrom_59 (by decide) ?_
        refine lv_bipush (v := (12 : Int32)) hx hb dX1_copyFrom_60 (by decide) ?_
        refine wcDev_3 hx hb (hml.trans hl.1.symm) hown hts ma_X1_25 hK hW hS hA (inDev_a3 h_p1) (by decide) h_p0 (Nat.le_of_ble_eq_true rfl) (Nat.le_of_ble_eq_true rfl) dX1_copyFrom_62 (fun Ω_6 H locs h_p0 hF_6 hW hS => ?_)
        have h_p1 := h_p1.keep (fun q h1 h2 => hF_6 q (by omega))
        have hE : ∀ q : Nat, (q < p0 ∨ p0 + 5 ≤ q) → Ω_6 q = Ω q := fun q g0 => (hF_6 q (by omega)).trans (hE q g0)
        subst hR
        exact W.vret hx hb hr (fun t ht hW9 => ⟨⟨Ω_6, rfl, ⟨h_p0, hE⟩, by rw [oB, ht]; exact hW⟩, hS.F ht⟩) hS.2.2 dX1_copyFrom_65
      · rw [if_neg c_4] at hR
        have i_4 := rnle c_4
        refine lv_aload_n hx hb dX1_copyFrom_8 rfl (lv_at hl 0 rfl) ?_
        refine o_get hx hb hts hown hK hW (inDev_o h_p0) rfl ig1 0 (by decide) fl_X1_9 rfl dX1_copyFrom_9 ?_
        refine lv_iload_n hx hb dX1_copyFrom_12 rfl (lv_at hl 2 rfl) ?_
        refine lv_aload_n hx hb dX1_copyFrom_13 rfl (lv_at hl 1 rfl) ?_
        refine o_get hx hb hts hown hK hW (inDev_o h_p1) rfl ig1 0 (by decide) fl_X1_9 rfl dX1_copyFrom_14 ?_
        refine lv_iload_n hx hb dX1_copyFrom_17 rfl (lv_at hl 2 rfl) ?_
        refine o_iald hx hb hK hW (inDev_a0 h_p1) (vp_in_iff.mpr ⟨by omega, by omega⟩) dX1_copyFrom_18 ?_
        refine wDev_0 hx hb hK hW hS hA h_p0 (vp_in_iff.mpr ⟨by omega, by omega⟩) dX1_copyFrom_19 (fun Ω_7 H locs h_p0 hF_7 hW hS => ?_)
        have h_p1 := h_p1.keep (fun q h1 h2 => hF_7 q (by omega))
        have hE : ∀ q : Nat, (q < p0 ∨ p0 + 5 ≤ q) → Ω_7 q = Ω q := fun q g0 => (hF_7 q (by omega)).trans (hE q g0)
        refine lv_aload_n hx hb dX1_copyFrom_20 rfl (lv_at hl 0 rfl) ?_
        refine o_get hx hb hts hown hK hW (inDev_o h_p0) rfl ig1 1 (by decide) fl_X1_15 rfl dX1_copyFrom_21 ?_
        refine lv_iload_n hx hb dX1_copyFrom_24 rfl (lv_at hl 2 rfl) ?_
        refine lv_aload_n hx hb dX1_copyFrom_25 rfl (lv_at hl 1 rfl) ?_
        refine o_get hx hb hts hown hK hW (inDev_o h_p1) rfl ig1 1 (by decide) fl_X1_15 rfl dX1_copyFrom_26 ?_
        refine lv_iload_n hx hb dX1_copyFrom_29 rfl (lv_at hl 2 rfl) ?_
        refine o_iald hx hb hK hW (inDev_a1 h_p1) (vp_in_iff.mpr ⟨by omega, by omega⟩) dX1_copyFrom_30 ?_
        refine wDev_1 hx hb hK hW hS hA h_p0 (vp_in_iff.mpr ⟨by omega, by omega⟩) dX1_copyFrom_31 (fun Ω_8 H locs h_p0 hF_8 hW hS => ?_)
        have h_p1 := h_p1.keep (fun q h1 h2 => hF_8 q (by omega))
        have hE : ∀ q : Nat, (q < p0 ∨ p0 + 5 ≤ q) → Ω_8 q = Ω q := fun q g0 => (hF_8 q (by omega)).trans (hE q g0)
        refine lv_aload_n hx hb dX1_copyFrom_32 rfl (lv_at hl 0 rfl) ?_
        refine o_get hx hb hts hown hK hW (inDev_o h_p0) rfl ig1 2 (by decide) fl_X1_18 rfl dX1_copyFrom_33 ?_
        refine lv_iload_n hx hb dX1_copyFrom_36 rfl (lv_at hl 2 rfl) ?_
        refine lv_aload_n hx hb dX1_copyFrom_37 rfl (lv_at hl 1 rfl) ?_
        refine o_get hx hb hts hown hK hW (inDev_o h_p1) rfl ig1 2 (by decide) fl_X1_18 rfl dX1_copyFrom_38 ?_
        refine lv_iload_n hx hb dX1_copyFrom_41 rfl (lv_at hl 2 rfl) ?_
        refine o_zald hx hb hK hW (inDev_a2 h_p1) (vp_in_iff.mpr ⟨by omega, by omega⟩) dX1_copyFrom_42 ?_
        refine wDev_2 hx hb hK hW hS hA h_p0 (vp_in_iff.mpr ⟨by omega, by omega⟩) dX1_copyFrom_43 (fun Ω_9 H locs h_p0 hF_9 hW hS => ?_)
        have h_p1 := h_p1.keep (fun q h1 h2 => hF_9 q (by omega))
        have hE : ∀ q : Nat, (q < p0 ∨ p0 + 5 ≤ q) → Ω_9 q = Ω q := fun q g0 => (hF_9 q (by omega)).trans (hE q g0)
        refine lv_iinc (v := (x2_1 + (1 : Int32))) (lv' := [(2, .int (x2_1 + (1 : Int32))), (0, .ref p0), (1, .ref p1)]) hx hb dX1_copyFrom_44 hl (k := 2) rfl rfl (by decide) rfl (fun ls hl => ?_)
        refine lv_goto (tgt := 2) hx hb dX1_copyFrom_47 (by decide) ?_
        have j_10 : (1 : Int32).toInt = 1 := by decide
        try have j_11 : (x2_1 + (1 : Int32)).toInt = x2_1.toInt + (1 : Int32).toInt := fb_addI (by omega) (by omega)
        exact ih2 (x2_1 + (1 : Int32)) (upd p0_0_1 x2_1.toNatClampNeg (p1_0 x2_1.toNatClampNeg)) (upd p0_1_1 x2_1.toNatClampNeg (p1_1 x2_1.toNatClampNeg)) (upd p0_2_1 x2_1.toNatClampNeg (vp_nar .boolean (p1_2 x2_1.toNatClampNeg))) Ω_9 H locs (by omega) h_p0 h_p1 hE hW hS ls (lv_sub hl [1, 2, 0] rfl) hR
  have j_12 : (0 : Int32).toInt = 0 := by decide
  exact L2 4000 (0 : Int32) p0_0 p0_1 p0_2 Ω s.heap [] (by omega) h_p0 h_p1 hE hW hS ls (lv_sub hl [1, 2, 0] rfl) hR
set_option maxHeartbeats 4000000 in
set_option maxRecDepth 100000 in
theorem c_X1_valueOf (l : Launch) (G : Gm) (A : Nat → Prop) (Ω : Om) (p0 : Nat) (p1 : Nat) (p0_0 : Fn) (p0_1 : Fn) (p0_2 : Fn) (p0_3 : Fn) (p1_0 : Blk) (x2 : Int32) (hB_p1 : BlkInv p1_0) (hi_x2 : 0 ≤ x2.toInt ∧ x2.toInt < 12) (h_p0 : inDev G Ω p0 p0_0 p0_1 p0_2 p0_3) (h_p1 : inBlk G Ω p1 p1_0) : Met l yX1_valueOf (wz yX1_valueOf cX1_valueOf 3 (some .int)) ({ frames := 0, cells := 0, slots := 0, locals := 0 } : Room) (va_Pc [.ref p0, .ref p1, .int x2] (oS G A Ω)) (va_Qi (fun (r : Int32) (Ω1 : Om) => r = (f_X1_valueOf p0_0 p1_0 x2) ∧ Ω1 = Ω) (oB G A) A) 0 0 A := by
  refine Met.ofW (cc := cX1_valueOf) (maxL := 3) (ret := (some .int)) (by decide) rfl ?_
  intro p e s m args below meth c s₁ B hml hv
  obtain ⟨rfl, hW, hK, hN, hZ⟩ := hv
  have hx := B.exec
  have hb := B.bytes
  have hr := B.returns
  have hts : ∀ w ∈ gt, w.before _ s = true := fun w hw => atoms_spec (ws := wz yX1_valueOf cX1_valueOf 3 (some .int)) B.pre w (List.mem_cons_of_mem _ hw)
  have hown : s.vm.findClass RX1 = some m.cls := findClass_of_methodNamed B.named
  have hlocks := B.notSynchronized
  have hA : ∀ q, A q → A q := fun _ h => h
  have hS : va_S A s.heap s.heap [] := va_S.rf
  have hS0 := hS
  have hl := lv_entry ([.ref p0, .ref p1, .int x2]) (n := 3) (Nat.le_of_ble_eq_true rfl)
  rw [lg_entry_eq]
  generalize (lg_sl ([.ref p0, .ref p1, .int x2]) ++ List.replicate (3 - (lg_sl ([.ref p0, .ref p1, .int x2])).length) Slot.unset).toArray = ls at hl ⊢
  have hl : lv_has ls 3 [(0, .ref p0), (1, .ref p1), (2, .int x2)] := hl
  generalize hR : (f_X1_valueOf p0_0 p1_0 x2) = R
  rw [f_X1_valueOf] at hR
  refine lv_aload_n hx hb dX1_valueOf_0 rfl (lv_at hl 0 rfl) ?_
  refine o_get hx hb hts hown hK hW (inDev_o h_p0) rfl ig1 0 (by decide) fl_X1_9 rfl dX1_valueOf_1 ?_
  refine lv_aload_n hx hb dX1_valueOf_4 rfl (lv_at hl 1 rfl) ?_
  refine o_get hx hb hts hown hK hW (inBlk_o h_p1) rfl ig0 6 (by decide) fl_X1_47 rfl dX1_valueOf_5 ?_
  refine lv_iload_n hx hb dX1_valueOf_8 rfl (lv_at hl 2 rfl) ?_
  refine o_iald hx hb hK hW (inBlk_a3 h_p1) (vp_in_iff.mpr ⟨by omega, by omega⟩) dX1_valueOf_9 ?_
  try have j_1 : 0 ≤ ((p1_0 4) x2.toNatClampNeg).toInt ∧ ((p1_0 4) x2.toNatClampNeg).toInt < 6 := BI_owner hB_p1 _
  refine o_iald hx hb hK hW (inDev_a0 h_p0) (vp_in_iff.mpr ⟨by omega, by omega⟩) dX1_valueOf_10 ?_
  refine lv_aload_n hx hb dX1_valueOf_11 rfl (lv_at hl 1 rfl) ?_
  refine o_get hx hb hts hown hK hW (inBlk_o h_p1) rfl ig0 10 (by decide) fl_X1_50 rfl dX1_valueOf_12 ?_
  refine lv_iload_n hx hb dX1_valueOf_15 rfl (lv_at hl 2 rfl) ?_
  refine o_iald hx hb hK hW (inBlk_a7 h_p1) (vp_in_iff.mpr ⟨by omega, by omega⟩) dX1_valueOf_16 ?_
  refine lv_iand hx hb dX1_valueOf_17 ?_
  refine lv_aload_n hx hb dX1_valueOf_18 rfl (lv_at hl 1 rfl) ?_
  refine o_get hx hb hts hown hK hW (inBlk_o h_p1) rfl ig0 8 (by decide) fl_X1_53 rfl dX1_valueOf_19 ?_
  refine lv_iload_n hx hb dX1_valueOf_22 rfl (lv_at hl 2 rfl) ?_
  refine o_iald hx hb hK hW (inBlk_a5 h_p1) (vp_in_iff.mpr ⟨by omega, by omega⟩) dX1_valueOf_23 ?_
  refine lv_ishr hx hb dX1_valueOf_24 ?_
  subst hR
  exact W.iret (v := (((p0_0 ((p1_0 4) x2.toNatClampNeg).toNatClampNeg) &&& ((p1_0 8) x2.toNatClampNeg)) >>> (((p1_0 6) x2.toNatClampNeg) &&& 31))) hx hb hr (fun t ht hW9 => ⟨⟨(((p0_0 ((p1_0 4) x2.toNatClampNeg).toNatClampNeg) &&& ((p1_0 8) x2.toNatClampNeg)) >>> (((p1_0 6) x2.toNatClampNeg) &&& 31)), Ω, rfl, ⟨rfl, rfl⟩, by rw [oB, ht]; exact hW⟩, hS.F ht⟩) hS.2.2 dX1_valueOf_25
set_option maxHeartbeats 4000000 in
set_option maxRecDepth 100000 in
theorem c_X1_isLocked (l : Launch) (G : Gm) (A : Nat → Prop) (Ω : Om) (p0 : Nat) (p1 : Nat) (p0_0 : Fn) (p0_1 : Fn) (p0_2 : Fn) (p0_3 : Fn) (p1_0 : Blk) (x2 : Int32) (hB_p1 : BlkInv p1_0) (hi_x2 : 0 ≤ x2.toInt ∧ x2.toInt < 6) (h_p0 : inDev G Ω p0 p0_0 p0_1 p0_2 p0_3) (h_p1 : inBlk G Ω p1 p1_0) : Met l yX1_isLocked (wz yX1_isLocked cX1_isLocked 4 (some .boolean)) ({ frames := 1, cells := 0, slots := 0, locals := 22 } : Room) (va_Pc [.ref p0, .ref p1, .int x2] (oS G A Ω)) (va_Qi (fun (r : Int32) (Ω1 : Om) => (r = (f_X1_isLocked p0_0 p1_0 x2) ∧ (r = 0 ∨ r = 1)) ∧ Ω1 = Ω) (oB G A) A) 0 0 A := by
  refine Met.ofW (cc := cX1_isLocked) (maxL := 4) (ret := (some .boolean)) (by decide) rfl ?_
  intro p e s m args below meth c s₁ B hml hv
  obtain ⟨rfl, hW, hK, hN, hZ⟩ := hv
  have hx := B.exec
  have hb := B.bytes
  have hr := B.returns
  have hts : ∀ w ∈ gt, w.before _ s = true := fun w hw => atoms_spec (ws := wz yX1_isLocked cX1_isLocked 4 (some .boolean)) B.pre w (List.mem_cons_of_mem _ hw)
  have hown : s.vm.findClass RX1 = some m.cls := findClass_of_methodNamed B.named
  have hlocks := B.notSynchronized
  have hA : ∀ q, A q → A q := fun _ h => h
  have hS : va_S A s.heap s.heap [] := va_S.rf
  have hS0 := hS
  have hl := lv_entry ([.ref p0, .ref p1, .int x2]) (n := 4) (Nat.le_of_ble_eq_true rfl)
  rw [lg_entry_eq]
  generalize (lg_sl ([.ref p0, .ref p1, .int x2]) ++ List.replicate (4 - (lg_sl ([.ref p0, .ref p1, .int x2])).length) Slot.unset).toArray = ls at hl ⊢
  have hl : lv_has ls 4 [(0, .ref p0), (1, .ref p1), (2, .int x2)] := hl
  generalize hR : (f_X1_isLocked p0_0 p1_0 x2) = R
  rw [f_X1_isLocked] at hR
  refine lv_aload_n hx hb dX1_isLocked_0 rfl (lv_at hl 1 rfl) ?_
  refine o_get hx hb hts hown hK hW (inBlk_o h_p1) rfl ig0 4 (by decide) fl_X1_59 rfl dX1_isLocked_1 ?_
  refine lv_iload_n hx hb dX1_isLocked_4 rfl (lv_at hl 2 rfl) ?_
  refine o_iald hx hb hK hW (inBlk_a1 h_p1) (vp_in_iff.mpr ⟨by omega, by omega⟩) dX1_isLocked_5 ?_
  refine lv_istore_n (lv' := [(3, .int ((p1_0 2) x2.toNatClampNeg)), (0, .ref p0), (1, .ref p1), (2, .int x2)]) hx hb dX1_isLocked_6 rfl hl (by decide) rfl (fun ls hl => ?_)
  refine lv_iload_n hx hb dX1_isLocked_7 rfl (lv_at hl 0 rfl) ?_
  refine lv_aload_n hx hb dX1_isLocked_8 rfl (lv_at hl 2 rfl) ?_
  refine o_get hx hb hts hown hK hW (inBlk_o h_p1) rfl ig0 1 (by decide) fl_X1_36 rfl dX1_isLocked_9 ?_
  try have j_1 : 0 ≤ (p1_0 0 1).toInt ∧ (p1_0 0 1).toInt ≤ 12 := BI_flds (by assumption)
  refine o_SNiR (rest := []) (As := [.int ((p1_0 2) x2.toNatClampNeg), .int (p1_0 0 1)]) (n := 2) hx hb hml hown hts hK hN hZ hW hS hA (c_X8_isWithin l G A Ω ((p1_0 2) x2.toNatClampNeg) (p1_0 0 1)) (List.mem_of_getElem? (i := 8) rfl) st_X8_isWithin ini_X8 co_X8_isWithin (by decide +kernel) ⟨Nat.zero_le _, Nat.zero_le _⟩ hl.1 (Nat.le_of_ble_eq_true rfl) rfl rfl dX1_isLocked_12 (fun r H locs hp hW hS => ?_)
  obtain ⟨rfl, hz_2⟩ := hp
  have j_4 : (0 : Int32).toInt = 0 := by decide
  refine lv_if_eq (tgt := 31) hx hb dX1_isLocked_15 (by decide) (fun c_3 => ?_) (fun c_3 => ?_)
  · rw [if_pos c_3] at hR
    have i_3 := congrArg Int32.toInt c_3
    refine lv_iconst (v := (0 : Int32)) hx hb dX1_isLocked_31 (by decide) ?_
    subst hR
    exact W.zret (v := (0 : Int32)) hx hb hr (nb01 (Or.inl rfl)) (fun t ht hW9 => ⟨⟨(0 : Int32), Ω, rfl, ⟨⟨rfl, (Or.inl rfl)⟩, rfl⟩, by rw [oB, ht]; exact hW⟩, hS.F ht⟩) hS.2.2 dX1_isLocked_32
  · rw [if_neg c_3] at hR
    have i_3 := rne c_3
    have b_c_3 := rIW c_3
    refine lv_aload_n hx hb dX1_isLocked_18 rfl (lv_at hl 1 rfl) ?_
    refine lv_aload_n hx hb dX1_isLocked_19 rfl (lv_at hl 2 rfl) ?_
    refine lv_iload_n hx hb dX1_isLocked_20 rfl (lv_at hl 0 rfl) ?_
    refine o_ViR (rest := []) (As := [.ref p1, .int ((p1_0 2) x2.toNatClampNeg)]) (n := 2) hx hb hml hown hts hK hN hZ hW hS hA (c_X1_valueOf l G A Ω p0 p1 p0_0 p0_1 p0_2 p0_3 p1_0 ((p1_0 2) x2.toNatClampNeg) hB_p1 (by omega) h_p0 h_p1) (inDev_o h_p0) rfl (good_V ml_X1_66 im_X1_valueOf se_X1_valueOf ini_X1 co_X1_valueOf) (by decide +kernel) ⟨Nat.zero_le _, Nat.zero_le _⟩ hl.1 (Nat.le_of_ble_eq_true rfl) rfl rfl dX1_isLocked_21 (fun r H locs hp hW hS => ?_)
    subst hp
    refine lv_if_eq (tgt := 31) hx hb dX1_isLocked_24 (by decide) (fun c_6 => ?_) (fun c_6 => ?_)
    · rw [if_pos c_6] at hR
      have i_6 := congrArg Int32.toInt c_6
      refine lv_iconst (v := (0 : Int32)) hx hb dX1_isLocked_31 (by decide) ?_
      subst hR
      exact W.zret (v := (0 : Int32)) hx hb hr (nb01 (Or.inl rfl)) (fun t ht hW9 => ⟨⟨(0 : Int32), Ω, rfl, ⟨⟨rfl, (Or.inl rfl)⟩, rfl⟩, by rw [oB, ht]; exact hW⟩, hS.F ht⟩) hS.2.2 dX1_isLocked_32
    · rw [if_neg c_6] at hR
      have i_6 := rne c_6
      refine lv_iconst (v := (1 : Int32)) hx hb dX1_isLocked_27 (by decide) ?_
      refine lv_goto (tgt := 32) hx hb dX1_isLocked_28 (by decide) ?_
      subst hR
      exact W.zret (v := (1 : Int32)) hx hb hr (nb01 (Or.inr rfl)) (fun t ht hW9 => ⟨⟨(1 : Int32), Ω, rfl, ⟨⟨rfl, (Or.inr rfl)⟩, rfl⟩, by rw [oB, ht]; exact hW⟩, hS.F ht⟩) hS.2.2 dX1_isLocked_32
set_option maxHeartbeats 4000000 in
set_option maxRecDepth 100000 in
theorem c_X1_bitsAfter (l : Launch) (G : Gm) (A : Nat → Prop) (Ω : Om) (p0 : Nat) (p0_0 : Fn) (p0_1 : Fn) (p0_2 : Fn) (p0_3 : Fn) (x1 : Int32) (x2 : Int32) (x3 : Int32) (hi_x1 : 0 ≤ x1.toInt ∧ x1.toInt < 6) (h_p0 : inDev G Ω p0 p0_0 p0_1 p0_2 p0_3) : Met l yX1_bitsAfter (wz yX1_bitsAfter cX1_bitsAfter 4 (some .int)) ({ frames := 0, cells := 0, slots := 0, locals := 0 } : Room) (va_Pc [.ref p0, .int x1, .int x2, .int x3] (oS G A Ω)) (va_Qi (fun (r : Int32) (Ω1 : Om) => r = (f_X1_bitsAfter p0_0 p0_2 x1 x2 x3) ∧ Ω1 = Ω) (oB G A) A) 0 0 A := by
  refine Met.ofW (cc := cX1_bitsAfter) (maxL := 4) (ret := (some .int)) (by decide) rfl ?_
  intro p e s m args below meth c s₁ B hml hv
  obtain ⟨rfl, hW, hK, hN, hZ⟩ := hv
  have hx := B.exec
  have hb := B.bytes
  have hr := B.returns
  have hts : ∀ w ∈ gt, w.before _ s = true := fun w hw => atoms_spec (ws := wz yX1_bitsAfter cX1_bitsAfter 4 (some .int)) B.pre w (List.mem_cons_of_mem _ hw)
  have hown : s.vm.findClass RX1 = some m.cls := findClass_of_methodNamed B.named
  have hlocks := B.notSynchronized
  have hA : ∀ q, A q → A q := fun _ h => h
  have hS : va_S A s.heap s.heap [] := va_S.rf
  have hS0 := hS
  have hl := lv_entry ([.ref p0, .int x1, .int x2, .int x3]) (n := 4) (Nat.le_of_ble_eq_true rfl)
  rw [lg_entry_eq]
  generalize (lg_sl ([.ref p0, .int x1, .int x2, .int x3]) ++ List.replicate (4 - (lg_sl ([.ref p0, .int x1, .int x2, .int x3])).length) Slot.unset).toArray = ls at hl ⊢
  have hl : lv_has ls 4 [(0, .ref p0), (1, .int x1), (2, .int x2), (3, .int x3)] := hl
  generalize hR : (f_X1_bitsAfter p0_0 p0_2 x1 x2 x3) = R
  rw [f_X1_bitsAfter] at hR
  refine lv_iload_n hx hb dX1_bitsAfter_0 rfl (lv_at hl 3 rfl) ?_
  by_cases c_1 : x3 = (0 : Int32)
  · rw [if_pos c_1] at hR
    refine lv_tableIn (tgt := 48) hx hb dX1_bitsAfter_1 (by rw [c_1]; decide) (by rw [c_1]; decide) (by rw [c_1]; rfl) (by decide) ?_
    have i_1 := congrArg Int32.toInt c_1
    have j_2 : (0 : Int32).toInt = 0 := by decide
    refine lv_iload_n hx hb dX1_bitsAfter_48 rfl (lv_at hl 2 rfl) ?_
    subst hR
    exact W.iret (v := x2) hx hb hr (fun t ht hW9 => ⟨⟨x2, Ω, rfl, ⟨rfl, rfl⟩, by rw [oB, ht]; exact hW⟩, hS.F ht⟩) hS.2.2 dX1_bitsAfter_49
  rw [if_neg c_1] at hR
  by_cases c_3 : x3 = (1 : Int32)
  · rw [if_pos c_3] at hR
    refine lv_tableIn (tgt := 99) hx hb dX1_bitsAfter_1 (by rw [c_3]; decide) (by rw [c_3]; decide) (by rw [c_3]; rfl) (by decide) ?_
    have i_3 := congrArg Int32.toInt c_3
    refine lv_aload_n hx hb dX1_bitsAfter_99 rfl (lv_at hl 0 rfl) ?_
    refine o_get hx hb hts hown hK hW (inDev_o h_p0) rfl ig1 0 (by decide) fl_X1_9 rfl dX1_bitsAfter_100 ?_
    refine lv_iload_n hx hb dX1_bitsAfter_103 rfl (lv_at hl 1 rfl) ?_
    refine o_iald hx hb hK hW (inDev_a0 h_p0) (vp_in_iff.mpr ⟨by omega, by omega⟩) dX1_bitsAfter_104 ?_
    subst hR
    exact W.iret (v := (p0_0 x1.toNatClampNeg)) hx hb hr (fun t ht hW9 => ⟨⟨(p0_0 x1.toNatClampNeg), Ω, rfl, ⟨rfl, rfl⟩, by rw [oB, ht]; exact hW⟩, hS.F ht⟩) hS.2.2 dX1_bitsAfter_105
  rw [if_neg c_3] at hR
  by_cases c_4 : x3 = (2 : Int32)
  · rw [if_pos c_4] at hR
    refine lv_tableIn (tgt := 48) hx hb dX1_bitsAfter_1 (by rw [c_4]; decide) (by rw [c_4]; decide) (by rw [c_4]; rfl) (by decide) ?_
    have i_4 := congrArg Int32.toInt c_4
    refine lv_iload_n hx hb dX1_bitsAfter_48 rfl (lv_at hl 2 rfl) ?_
    subst hR
    exact W.iret (v := x2) hx hb hr (fun t ht hW9 => ⟨⟨x2, Ω, rfl, ⟨rfl, rfl⟩, by rw [oB, ht]; exact hW⟩, hS.F ht⟩) hS.2.2 dX1_bitsAfter_49
  rw [if_neg c_4] at hR
  by_cases c_5 : x3 = (3 : Int32)
  · rw [if_pos c_5] at hR
    refine lv_tableIn (tgt := 50) hx hb dX1_bitsAfter_1 (by rw [c_5]; decide) (by rw [c_5]; decide) (by rw [c_5]; rfl) (by decide) ?_
    have i_5 := congrArg Int32.toInt c_5
    refine lv_aload_n hx hb dX1_bitsAfter_50 rfl (lv_at hl 0 rfl) ?_
    refine o_get hx hb hts hown hK hW (inDev_o h_p0) rfl ig1 0 (by decide) fl_X1_9 rfl dX1_bitsAfter_51 ?_
    refine lv_iload_n hx hb dX1_bitsAfter_54 rfl (lv_at hl 1 rfl) ?_
    refine o_iald hx hb hK hW (inDev_a0 h_p0) (vp_in_iff.mpr ⟨by omega, by omega⟩) dX1_bitsAfter_55 ?_
    refine lv_iload_n hx hb dX1_bitsAfter_56 rfl (lv_at hl 2 rfl) ?_
    refine lv_iconst (v := (-1 : Int32)) hx hb dX1_bitsAfter_57 (by decide) ?_
    refine lv_ixor hx hb dX1_bitsAfter_58 ?_
    refine lv_iand hx hb dX1_bitsAfter_59 ?_
    subst hR
    exact W.iret (v := ((p0_0 x1.toNatClampNeg) &&& (x2 ^^^ (-1 : Int32)))) hx hb hr (fun t ht hW9 => ⟨⟨((p0_0 x1.toNatClampNeg) &&& (x2 ^^^ (-1 : Int32))), Ω, rfl, ⟨rfl, rfl⟩, by rw [oB, ht]; exact hW⟩, hS.F ht⟩) hS.2.2 dX1_bitsAfter_60
  rw [if_neg c_5] at hR
  by_cases c_6 : x3 = (4 : Int32)
  · rw [if_pos c_6] at hR
    refine lv_tableIn (tgt := 61) hx hb dX1_bitsAfter_1 (by rw [c_6]; decide) (by rw [c_6]; decide) (by rw [c_6]; rfl) (by decide) ?_
    have i_6 := congrArg Int32.toInt c_6
    refine lv_aload_n hx hb dX1_bitsAfter_61 rfl (lv_at hl 0 rfl) ?_
    refine o_get hx hb hts hown hK hW (inDev_o h_p0) rfl ig1 0 (by decide) fl_X1_9 rfl dX1_bitsAfter_62 ?_
    refine lv_iload_n hx hb dX1_bitsAfter_65 rfl (lv_at hl 1 rfl) ?_
    refine o_iald hx hb hK hW (inDev_a0 h_p0) (vp_in_iff.mpr ⟨by omega, by omega⟩) dX1_bitsAfter_66 ?_
    refine lv_iload_n hx hb dX1_bitsAfter_67 rfl (lv_at hl 2 rfl) ?_
    refine lv_ior hx hb dX1_bitsAfter_68 ?_
    subst hR
    exact W.iret (v := ((p0_0 x1.toNatClampNeg) ||| x2)) hx hb hr (fun t ht hW9 => ⟨⟨((p0_0 x1.toNatClampNeg) ||| x2), Ω, rfl, ⟨rfl, rfl⟩, by rw [oB, ht]; exact hW⟩, hS.F ht⟩) hS.2.2 dX1_bitsAfter_69
  rw [if_neg c_6] at hR
  by_cases c_7 : x3 = (5 : Int32)
  · rw [if_pos c_7] at hR
    refine lv_tableIn (tgt := 70) hx hb dX1_bitsAfter_1 (by rw [c_7]; decide) (by rw [c_7]; decide) (by rw [c_7]; rfl) (by decide) ?_
    have i_7 := congrArg Int32.toInt c_7
    refine lv_aload_n hx hb dX1_bitsAfter_70 rfl (lv_at hl 0 rfl) ?_
    refine o_get hx hb hts hown hK hW (inDev_o h_p0) rfl ig1 0 (by decide) fl_X1_9 rfl dX1_bitsAfter_71 ?_
    refine lv_iload_n hx hb dX1_bitsAfter_74 rfl (lv_at hl 1 rfl) ?_
    refine o_iald hx hb hK hW (inDev_a0 h_p0) (vp_in_iff.mpr ⟨by omega, by omega⟩) dX1_bitsAfter_75 ?_
    refine lv_iload_n hx hb dX1_bitsAfter_76 rfl (lv_at hl 2 rfl) ?_
    refine lv_ixor hx hb dX1_bitsAfter_77 ?_
    subst hR
    exact W.iret (v := ((p0_0 x1.toNatClampNeg) ^^^ x2)) hx hb hr (fun t ht hW9 => ⟨⟨((p0_0 x1.toNatClampNeg) ^^^ x2), Ω, rfl, ⟨rfl, rfl⟩, by rw [oB, ht]; exact hW⟩, hS.F ht⟩) hS.2.2 dX1_bitsAfter_78
  rw [if_neg c_7] at hR
  by_cases c_8 : x3 = (6 : Int32)
  · rw [if_pos c_8] at hR
    refine lv_tableIn (tgt := 99) hx hb dX1_bitsAfter_1 (by rw [c_8]; decide) (by rw [c_8]; decide) (by rw [c_8]; rfl) (by decide) ?_
    have i_8 := congrArg Int32.toInt c_8
    refine lv_aload_n hx hb dX1_bitsAfter_99 rfl (lv_at hl 0 rfl) ?_
    refine o_get hx hb hts hown hK hW (inDev_o h_p0) rfl ig1 0 (by decide) fl_X1_9 rfl dX1_bitsAfter_100 ?_
    refine lv_iload_n hx hb dX1_bitsAfter_103 rfl (lv_at hl 1 rfl) ?_
    refine o_iald hx hb hK hW (inDev_a0 h_p0) (vp_in_iff.mpr ⟨by omega, by omega⟩) dX1_bitsAfter_104 ?_
    subst hR
    exact W.iret (v := (p0_0 x1.toNatClampNeg)) hx hb hr (fun t ht hW9 => ⟨⟨(p0_0 x1.toNatClampNeg), Ω, rfl, ⟨rfl, rfl⟩, by rw [oB, ht]; exact hW⟩, hS.F ht⟩) hS.2.2 dX1_bitsAfter_105
  rw [if_neg c_8] at hR
  by_cases c_9 : x3 = (7 : Int32)
  · rw [if_pos c_9] at hR
    refine lv_tableIn (tgt := 79) hx hb dX1_bitsAfter_1 (by rw [c_9]; decide) (by rw [c_9]; decide) (by rw [c_9]; rfl) (by decide) ?_
    have i_9 := congrArg Int32.toInt c_9
    refine lv_aload_n hx hb dX1_bitsAfter_79 rfl (lv_at hl 0 rfl) ?_
    refine o_get hx hb hts hown hK hW (inDev_o h_p0) rfl ig1 2 (by decide) fl_X1_18 rfl dX1_bitsAfter_80 ?_
    refine lv_iload_n hx hb dX1_bitsAfter_83 rfl (lv_at hl 1 rfl) ?_
    refine o_zald hx hb hK hW (inDev_a2 h_p0) (vp_in_iff.mpr ⟨by omega, by omega⟩) dX1_bitsAfter_84 ?_
    have j_11 : (0 : Int32).toInt = 0 := by decide
    refine lv_if_eq (tgt := 97) hx hb dX1_bitsAfter_85 (by decide) (fun c_10 => ?_) (fun c_10 => ?_)
    · rw [if_pos c_10] at hR
      have i_10 := congrArg Int32.toInt c_10
      refine lv_iload_n hx hb dX1_bitsAfter_97 rfl (lv_at hl 2 rfl) ?_
      subst hR
      exact W.iret (v := x2) hx hb hr (fun t ht hW9 => ⟨⟨x2, Ω, rfl, ⟨rfl, rfl⟩, by rw [oB, ht]; exact hW⟩, hS.F ht⟩) hS.2.2 dX1_bitsAfter_98
    · rw [if_neg c_10] at hR
      have i_10 := rne c_10
      refine lv_aload_n hx hb dX1_bitsAfter_88 rfl (lv_at hl 0 rfl) ?_
      refine o_get hx hb hts hown hK hW (inDev_o h_p0) rfl ig1 0 (by decide) fl_X1_9 rfl dX1_bitsAfter_89 ?_
      refine lv_iload_n hx hb dX1_bitsAfter_92 rfl (lv_at hl 1 rfl) ?_
      refine o_iald hx hb hK hW (inDev_a0 h_p0) (vp_in_iff.mpr ⟨by omega, by omega⟩) dX1_bitsAfter_93 ?_
      refine lv_goto (tgt := 98) hx hb dX1_bitsAfter_94 (by decide) ?_
      subst hR
      exact W.iret (v := (p0_0 x1.toNatClampNeg)) hx hb hr (fun t ht hW9 => ⟨⟨(p0_0 x1.toNatClampNeg), Ω, rfl, ⟨rfl, rfl⟩, by rw [oB, ht]; exact hW⟩, hS.F ht⟩) hS.2.2 dX1_bitsAfter_98
  rw [if_neg c_9] at hR
  have i_1 := lv_neT c_1 (a := 0) rfl
  have i_3 := lv_neT c_3 (a := 1) rfl
  have i_4 := lv_neT c_4 (a := 2) rfl
  have i_5 := lv_neT c_5 (a := 3) rfl
  have i_6 := lv_neT c_6 (a := 4) rfl
  have i_7 := lv_neT c_7 (a := 5) rfl
  have i_8 := lv_neT c_8 (a := 6) rfl
  have i_9 := lv_neT c_9 (a := 7) rfl
  refine lv_tableOut (tgt := 99) hx hb dX1_bitsAfter_1 (by omega) (by decide) ?_
  refine lv_aload_n hx hb dX1_bitsAfter_99 rfl (lv_at hl 0 rfl) ?_
  refine o_get hx hb hts hown hK hW (inDev_o h_p0) rfl ig1 0 (by decide) fl_X1_9 rfl dX1_bitsAfter_100 ?_
  refine lv_iload_n hx hb dX1_bitsAfter_103 rfl (lv_at hl 1 rfl) ?_
  refine o_iald hx hb hK hW (inDev_a0 h_p0) (vp_in_iff.mpr ⟨by omega, by omega⟩) dX1_bitsAfter_104 ?_
  subst hR
  exact W.iret (v := (p0_0 x1.toNatClampNeg)) hx hb hr (fun t ht hW9 => ⟨⟨(p0_0 x1.toNatClampNeg), Ω, rfl, ⟨rfl, rfl⟩, by rw [oB, ht]; exact hW⟩, hS.F ht⟩) hS.2.2 dX1_bitsAfter_105
set_option maxHeartbeats 4000000 in
set_option maxRecDepth 100000 in
theorem c_X1_letInByAlias (l : Launch) (G : Gm) (A : Nat → Prop) (Ω : Om) (p0 : Nat) (p1 : Nat) (p0_0 : Fn) (p0_1 : Fn) (p0_2 : Fn) (p0_3 : Fn) (p1_0 : Blk) (x2 : Int32) (x3 : Int32) (x4 : Int32) (hd_p0_p1 : p0 + 5 ≤ p1 ∨ p1 + 13 ≤ p0) (hB_p1 : BlkInv p1_0) (hi_x2 : 0 ≤ x2.toInt ∧ x2.toInt < 6) (h_p0 : inDev G Ω p0 p0_0 p0_1 p0_2 p0_3) (h_p1 : inBlk G Ω p1 p1_0) : Met l yX1_letInByAlias (wz yX1_letInByAlias cX1_letInByAlias 6 none) ({ frames := 1, cells := 0, slots := 0, locals := 24 } : Room) (va_Pc [.ref p0, .ref p1, .int x2, .int x3, .int x4] (oS G A Ω)) (va_Qv (fun (Ω1 : Om) => inDev G Ω1 p0 ((f_X1_letInByAlias p0_0 p0_2 p0_3 p1_0 x2 x3 x4)) p0_1 p0_2 p0_3 ∧ (∀ q : Nat, (q < p0 ∨ p0 + 5 ≤ q) → Ω1 q = Ω q)) (oB G A) A) 0 0 A := by
  refine Met.ofW (cc := cX1_letInByAlias) (maxL := 6) (ret := none) (by decide) rfl ?_
  intro p e s m args below meth c s₁ B hml hv
  obtain ⟨rfl, hW, hK, hN, hZ⟩ := hv
  have hx := B.exec
  have hb := B.bytes
  have hr := B.returns
  have hts : ∀ w ∈ gt, w.before _ s = true := fun w hw => atoms_spec (ws := wz yX1_letInByAlias cX1_letInByAlias 6 none) B.pre w (List.mem_cons_of_mem _ hw)
  have hown : s.vm.findClass RX1 = some m.cls := findClass_of_methodNamed B.named
  have hlocks := B.notSynchronized
  have hA : ∀ q, A q → A q := fun _ h => h
  have hS : va_S A s.heap s.heap [] := va_S.rf
  have hS0 := hS
  have hl := lv_entry ([.ref p0, .ref p1, .int x2, .int x3, .int x4]) (n := 6) (Nat.le_of_ble_eq_true rfl)
  rw [lg_entry_eq]
  generalize (lg_sl ([.ref p0, .ref p1, .int x2, .int x3, .int x4]) ++ List.replicate (6 - (lg_sl ([.ref p0, .ref p1, .int x2, .int x3, .int x4])).length) Slot.unset).toArray = ls at hl ⊢
  have hl : lv_has ls 6 [(0, .ref p0), (1, .ref p1), (2, .int x2), (3, .int x3), (4, .int x4)] := hl
  have hE : ∀ q : Nat, (q < p0 ∨ p0 + 5 ≤ q) → Ω q = Ω q := by intros; rfl
  generalize hR : (f_X1_letInByAlias p0_0 p0_2 p0_3 p1_0 x2 x3 x4) = R
  rw [f_X1_letInByAlias] at hR
  refine lv_iconst (v := (0 : Int32)) hx hb dX1_letInByAlias_0 (by decide) ?_
  refine lv_istore (lv' := [(5, .int (0 : Int32)), (0, .ref p0), (1, .ref p1), (2, .int x2), (3, .int x3), (4, .int x4)]) hx hb dX1_letInByAlias_1 hl (by decide) rfl (fun ls hl => ?_)
  have L3 : ∀ (n_2 : Nat) (x5_1 : Int32) (p0_0_1 : Fn) (Ω_3 : Om) (H : Heap) (locs : List Loc), (0 ≤ x5_1.toInt ∧ x5_1.toInt ≤ 12 ∧ 12 - x5_1.toInt < n_2) → inDev G Ω_3 p0 p0_0_1 p0_1 p0_2 p0_3 → inBlk G Ω_3 p1 p1_0 → (∀ q : Nat, (q < p0 ∨ p0 + 5 ≤ q) → Ω_3 q = Ω q) → oW G A Ω_3 H → va_S A s.heap H locs → ∀ ls : Array Slot, lv_has ls 6 [(0, .ref p0), (1, .ref p1), (2, .int x2), (3, .int x3), (4, .int x4), (5, .int x5_1)] → (f_X1_letInByAlias_L3 p0_2 p0_3 p1_0 x2 x3 x4 n_2 x5_1 p0_0_1) = R → W p l e (headSpec (wz yX1_letInByAlias cX1_letInByAlias 6 none) ({ frames := 1, cells := 0, slots := 0, locals := 24 } : Room)).room s m ([.ref p0, .ref p1, .int x2, .int x3, .int x4] : List Value).toArray below meth c H locs 0 0 (MQ below (va_Qv (fun (Ω1 : Om) => inDev G Ω1 p0 (R) p0_1 p0_2 p0_3 ∧ (∀ q : Nat, (q < p0 ∨ p0 + 5 ≤ q) → Ω1 q = Ω q)) (oB G A) A) ([.ref p0, .ref p1, .int x2, .int x3, .int x4] : List Value).toArray s 0 0 A) (F0 m 3 ls []) := by
    intro n_2
    induction n_2 with
    | zero =>
      intro x5_1 p0_0_1 Ω_3 H locs v_3_0 h_p0 h_p1 hE hW hS ls hl hR
      exfalso
      omega
    | succ n_2 ih3 =>
      intro x5_1 p0_0_1 Ω_3 H locs v_3_0 h_p0 h_p1 hE hW hS ls hl hR
      rw [f_X1_letInByAlias_L3] at hR
      refine lv_iload hx hb dX1_letInByAlias_3 (lv_at hl 5 rfl) ?_
      refine lv_aload_n hx hb dX1_letInByAlias_5 rfl (lv_at hl 1 rfl) ?_
      refine o_get hx hb hts hown hK hW (inBlk_o h_p1) rfl ig0 1 (by decide) fl_X1_36 rfl dX1_letInByAlias_6 ?_
      try have j_5 : 0 ≤ (p1_0 0 1).toInt ∧ (p1_0 0 1).toInt ≤ 12 := BI_flds (by assumption)
      refine lv_icmp_ge (tgt := 67) hx hb dX1_letInByAlias_9 (by decide) (fun c_4 => ?_) (fun c_4 => ?_)
      · rw [if_pos c_4] at hR
        have i_4 := rle c_4
        subst hR
        exact W.vret hx hb hr (fun t ht hW9 => ⟨⟨Ω_3, rfl, ⟨h_p0, hE⟩, by rw [oB, ht]; exact hW⟩, hS.F ht⟩) hS.2.2 dX1_letInByAlias_67
      · rw [if_neg c_4] at hR
        have i_4 := rnle c_4
        refine lv_aload_n hx hb dX1_letInByAlias_12 rfl (lv_at hl 1 rfl) ?_
        refine o_get hx hb hts hown hK hW (inBlk_o h_p1) rfl ig0 6 (by decide) fl_X1_47 rfl dX1_letInByAlias_13 ?_
        refine lv_iload hx hb dX1_letInByAlias_16 (lv_at hl 5 rfl) ?_
        refine o_iald hx hb hK hW (inBlk_a3 h_p1) (vp_in_iff.mpr ⟨by omega, by omega⟩) dX1_letInByAlias_18 ?_
        refine lv_iload_n hx hb dX1_letInByAlias_19 rfl (lv_at hl 2 rfl) ?_
        try have j_7 : 0 ≤ ((p1_0 4) x5_1.toNatClampNeg).toInt ∧ ((p1_0 4) x5_1.toNatClampNeg).toInt < 6 := BI_owner hB_p1 _
        refine lv_icmp_ne (tgt := 61) hx hb dX1_letInByAlias_20 (by decide) (fun c_6 => ?_) (fun c_6 => ?_)
        · rw [if_neg c_6] at hR
          have i_6 := rne c_6
          refine lv_iinc (v := (x5_1 + (1 : Int32))) (lv' := [(5, .int (x5_1 + (1 : Int32))), (0, .ref p0), (1, .ref p1), (2, .int x2), (3, .int x3), (4, .int x4)]) hx hb dX1_letInByAlias_61 hl (k := 5) rfl rfl (by decide) rfl (fun ls hl => ?_)
          refine lv_goto (tgt := 3) hx hb dX1_letInByAlias_64 (by decide) ?_
          have j_8 : (1 : Int32).toInt = 1 := by decide
          try have j_9 : (x5_1 + (1 : Int32)).toInt = x5_1.toInt + (1 : Int32).toInt := fb_addI (by omega) (by omega)
          exact ih3 (x5_1 + (1 : Int32)) p0_0_1 Ω_3 H locs (by omega) h_p0 h_p1 hE hW hS ls (lv_sub hl [1, 2, 3, 4, 5, 0] rfl) hR
        · rw [if_pos c_6] at hR
          have i_6 := congrArg Int32.toInt c_6
          refine lv_aload_n hx hb dX1_letInByAlias_23 rfl (lv_at hl 0 rfl) ?_
          refine o_get hx hb hts hown hK hW (inDev_o h_p0) rfl ig1 3 (by decide) fl_X1_22 rfl dX1_letInByAlias_24 ?_
          refine lv_iload hx hb dX1_letInByAlias_27 (lv_at hl 5 rfl) ?_
          refine o_iald hx hb hK hW (inDev_a3 h_p0) (vp_in_iff.mpr ⟨by omega, by omega⟩) dX1_letInByAlias_29 ?_
          refine lv_iconst (v := (1 : Int32)) hx hb dX1_letInByAlias_30 (by decide) ?_
          have j_11 : (1 : Int32).toInt = 1 := by decide
          refine lv_icmp_eq (tgt := 61) hx hb dX1_letInByAlias_31 (by decide) (fun c_10 => ?_) (fun c_10 => ?_)
          · rw [if_pos c_10] at hR
            have i_10 := congrArg Int32.toInt c_10
            refine lv_iinc (v := (x5_1 + (1 : Int32))) (lv' := [(5, .int (x5_1 + (1 : Int32))), (0, .ref p0), (1, .ref p1), (2, .int x2), (3, .int x3), (4, .int x4)]) hx hb dX1_letInByAlias_61 hl (k := 5) rfl rfl (by decide) rfl (fun ls hl => ?_)
            refine lv_goto (tgt := 3) hx hb dX1_letInByAlias_64 (by decide) ?_
            try have j_12 : (x5_1 + (1 : Int32)).toInt = x5_1.toInt + (1 : Int32).toInt := fb_addI (by omega) (by omega)
            exact ih3 (x5_1 + (1 : Int32)) p0_0_1 Ω_3 H locs (by omega) h_p0 h_p1 hE hW hS ls (lv_sub hl [1, 2, 3, 4, 5, 0] rfl) hR
          · rw [if_neg c_10] at hR
            have i_10 := rne c_10
            refine lv_aload_n hx hb dX1_letInByAlias_34 rfl (lv_at hl 0 rfl) ?_
            refine o_get hx hb hts hown hK hW (inDev_o h_p0) rfl ig1 3 (by decide) fl_X1_22 rfl dX1_letInByAlias_35 ?_
            refine lv_iload hx hb dX1_letInByAlias_38 (lv_at hl 5 rfl) ?_
            refine o_iald hx hb hK hW (inDev_a3 h_p0) (vp_in_iff.mpr ⟨by omega, by omega⟩) dX1_letInByAlias_40 ?_
            refine lv_bipush (v := (6 : Int32)) hx hb dX1_letInByAlias_41 (by decide) ?_
            have j_14 : (6 : Int32).toInt = 6 := by decide
            refine lv_icmp_eq (tgt := 61) hx hb dX1_letInByAlias_43 (by decide) (fun c_13 => ?_) (fun c_13 => ?_)
            · rw [if_pos c_13] at hR
              have i_13 := congrArg Int32.toInt c_13
              refine lv_iinc (v := (x5_1 + (1 : Int32))) (lv' := [(5, .int (x5_1 + (1 : Int32))), (0, .ref p0), (1, .ref p1), (2, .int x2), (3, .int x3), (4, .int x4)]) hx hb dX1_letInByAlias_61 hl (k := 5) rfl rfl (by decide) rfl (fun ls hl => ?_)
              refine lv_goto (tgt := 3) hx hb dX1_letInByAlias_64 (by decide) ?_
              try have j_15 : (x5_1 + (1 : Int32)).toInt = x5_1.toInt + (1 : Int32).toInt := fb_addI (by omega) (by omega)
              exact ih3 (x5_1 + (1 : Int32)) p0_0_1 Ω_3 H locs (by omega) h_p0 h_p1 hE hW hS ls (lv_sub hl [1, 2, 3, 4, 5, 0] rfl) hR
            · rw [if_neg c_13] at hR
              have i_13 := rne c_13
              refine lv_aload_n hx hb dX1_letInByAlias_46 rfl (lv_at hl 0 rfl) ?_
              refine lv_aload_n hx hb dX1_letInByAlias_47 rfl (lv_at hl 1 rfl) ?_
              refine lv_iload hx hb dX1_letInByAlias_48 (lv_at hl 5 rfl) ?_
              refine lv_aload_n hx hb dX1_letInByAlias_50 rfl (lv_at hl 0 rfl) ?_
              refine lv_iload_n hx hb dX1_letInByAlias_51 rfl (lv_at hl 2 rfl) ?_
              refine lv_iload_n hx hb dX1_letInByAlias_52 rfl (lv_at hl 3 rfl) ?_
              refine lv_iload hx hb dX1_letInByAlias_53 (lv_at hl 4 rfl) ?_
              refine o_ViR (rest := [.int x5_1, .ref p1, .ref p0]) (As := [.int x2, .int x3, .int x4]) (n := 3) hx hb hml hown hts hK hN hZ hW hS hA (c_X1_bitsAfter l G A Ω_3 p0 p0_0_1 p0_1 p0_2 p0_3 x2 x3 x4 (by omega) h_p0) (inDev_o h_p0) rfl (good_V ml_X1_106 im_X1_bitsAfter se_X1_bitsAfter ini_X1 co_X1_bitsAfter) (by decide +kernel) ⟨Nat.zero_le _, Nat.zero_le _⟩ hl.1 (Nat.le_of_ble_eq_true rfl) rfl rfl dX1_letInByAlias_55 (fun r H locs hp hW hS => ?_)
              subst hp
              refine o_Vv (rest := []) (As := [.ref p1, .int x5_1, .int (f_X1_bitsAfter p0_0_1 p0_2 x2 x3 x4)]) (n := 3) hx hb hml hown hts hK hN hZ hW hS hA (c_X1_putBits l G A Ω_3 p0 p1 p0_0_1 p0_1 p0_2 p0_3 p1_0 x5_1 (f_X1_bitsAfter p0_0_1 p0_2 x2 x3 x4) (by omega) hB_p1 (by omega) h_p0 h_p1) (inDev_o h_p0) rfl (good_V ml_X1_56 im_X1_putBits se_X1_putBits ini_X1 co_X1_putBits) (by decide +kernel) ⟨Nat.zero_le _, Nat.zero_le _⟩ hl.1 (Nat.le_of_ble_eq_true rfl) rfl rfl dX1_letInByAlias_58 (fun Ω_17 H locs hp hW hS => ?_)
              obtain ⟨h_p0, hF_17⟩ := hp
              have h_p1 := h_p1.keep (fun q h1 h2 => hF_17 q (by omega))
              have hE : ∀ q : Nat, (q < p0 ∨ p0 + 5 ≤ q) → Ω_17 q = Ω q := fun q g0 => (hF_17 q (by omega)).trans (hE q g0)
              refine lv_iinc (v := (x5_1 + (1 : Int32))) (lv' := [(5, .int (x5_1 + (1 : Int32))), (0, .ref p0), (1, .ref p1), (2, .int x2), (3, .int x3), (4, .int x4)]) hx hb dX1_letInByAlias_61 hl (k := 5) rfl rfl (by decide) rfl (fun ls hl => ?_)
              refine lv_goto (tgt := 3) hx hb dX1_letInByAlias_64 (by decide) ?_
              try have j_18 : (x5_1 + (1 : Int32)).toInt = x5_1.toInt + (1 : Int32).toInt := fb_addI (by omega) (by omega)
              exact ih3 (x5_1 + (1 : Int32)) (f_X1_putBits p0_0_1 p1_0 x5_1 (f_X1_bitsAfter p0_0_1 p0_2 x2 x3 x4)) Ω_17 H locs (by omega) h_p0 h_p1 hE hW hS ls (lv_sub hl [1, 2, 3, 4, 5, 0] rfl) hR
  have j_19 : (0 : Int32).toInt = 0 := by decide
  exact L3 4000 (0 : Int32) p0_0 Ω s.heap [] (by omega) h_p0 h_p1 hE hW hS ls (lv_sub hl [1, 2, 3, 4, 5, 0] rfl) hR
set_option maxHeartbeats 4000000 in
set_option maxRecDepth 100000 in
theorem c_X0_isOpenedBy (l : Launch) (G : Gm) (A : Nat → Prop) (Ω : Om) (p0 : Nat) (p0_0 : Blk) (x1 : Int32) (x2 : Int32) (hB_p0 : BlkInv p0_0) (hi_x1 : 0 ≤ x1.toInt ∧ x1.toInt < 6) (h_p0 : inBlk G Ω p0 p0_0) : Met l yX0_isOpenedBy (wz yX0_isOpenedBy cX0_isOpenedBy 4 (some .boolean)) ({ frames := 1, cells := 0, slots := 0, locals := 21 } : Room) (va_Pc [.ref p0, .int x1, .int x2] (oS G A Ω)) (va_Qi (fun (r : Int32) (Ω1 : Om) => (r = (f_X0_isOpenedBy p0_0 x1 x2) ∧ (r = 0 ∨ r = 1)) ∧ Ω1 = Ω) (oB G A) A) 0 0 A := by
  refine Met.ofW (cc := cX0_isOpenedBy) (maxL := 4) (ret := (some .boolean)) (by decide) rfl ?_
  intro p e s m args below meth c s₁ B hml hv
  obtain ⟨rfl, hW, hK, hN, hZ⟩ := hv
  have hx := B.exec
  have hb := B.bytes
  have hr := B.returns
  have hts : ∀ w ∈ gt, w.before _ s = true := fun w hw => atoms_spec (ws := wz yX0_isOpenedBy cX0_isOpenedBy 4 (some .boolean)) B.pre w (List.mem_cons_of_mem _ hw)
  have hown : s.vm.findClass RX0 = some m.cls := findClass_of_methodNamed B.named
  have hlocks := B.notSynchronized
  have hA : ∀ q, A q → A q := fun _ h => h
  have hS : va_S A s.heap s.heap [] := va_S.rf
  have hS0 := hS
  have hl := lv_entry ([.ref p0, .int x1, .int x2]) (n := 4) (Nat.le_of_ble_eq_true rfl)
  rw [lg_entry_eq]
  generalize (lg_sl ([.ref p0, .int x1, .int x2]) ++ List.replicate (4 - (lg_sl ([.ref p0, .int x1, .int x2])).length) Slot.unset).toArray = ls at hl ⊢
  have hl : lv_has ls 4 [(0, .ref p0), (1, .int x1), (2, .int x2)] := hl
  generalize hR : (f_X0_isOpenedBy p0_0 x1 x2) = R
  rw [f_X0_isOpenedBy] at hR
  refine lv_aload_n hx hb dX0_isOpenedBy_0 rfl (lv_at hl 0 rfl) ?_
  refine o_get hx hb hts hown hK hW (inBlk_o h_p0) rfl ig0 5 (by decide) fl_X0_18 rfl dX0_isOpenedBy_1 ?_
  refine lv_iload_n hx hb dX0_isOpenedBy_4 rfl (lv_at hl 1 rfl) ?_
  refine o_iald hx hb hK hW (inBlk_a2 h_p0) (vp_in_iff.mpr ⟨by omega, by omega⟩) dX0_isOpenedBy_5 ?_
  refine lv_istore_n (lv' := [(3, .int ((p0_0 3) x1.toNatClampNeg)), (0, .ref p0), (1, .int x1), (2, .int x2)]) hx hb dX0_isOpenedBy_6 rfl hl (by decide) rfl (fun ls hl => ?_)
  refine lv_iload_n hx hb dX0_isOpenedBy_7 rfl (lv_at hl 0 rfl) ?_
  refine lv_aload_n hx hb dX0_isOpenedBy_8 rfl (lv_at hl 1 rfl) ?_
  refine o_get hx hb hts hown hK hW (inBlk_o h_p0) rfl ig0 1 (by decide) fl_X0_52 rfl dX0_isOpenedBy_9 ?_
  try have j_1 : 0 ≤ (p0_0 0 1).toInt ∧ (p0_0 0 1).toInt ≤ 12 := BI_flds (by assumption)
  refine o_SNiR (rest := []) (As := [.int ((p0_0 3) x1.toNatClampNeg), .int (p0_0 0 1)]) (n := 2) hx hb hml hown hts hK hN hZ hW hS hA (c_X8_isWithin l G A Ω ((p0_0 3) x1.toNatClampNeg) (p0_0 0 1)) (List.mem_of_getElem? (i := 9) rfl) st_X8_isWithin ini_X8 co_X8_isWithin (by decide +kernel) ⟨Nat.zero_le _, Nat.zero_le _⟩ hl.1 (Nat.le_of_ble_eq_true rfl) rfl rfl dX0_isOpenedBy_12 (fun r H locs hp hW hS => ?_)
  obtain ⟨rfl, hz_2⟩ := hp
  have j_4 : (0 : Int32).toInt = 0 := by decide
  refine lv_if_eq (tgt := 32) hx hb dX0_isOpenedBy_15 (by decide) (fun c_3 => ?_) (fun c_3 => ?_)
  · rw [if_pos c_3] at hR
    have i_3 := congrArg Int32.toInt c_3
    refine lv_iconst (v := (0 : Int32)) hx hb dX0_isOpenedBy_32 (by decide) ?_
    subst hR
    exact W.zret (v := (0 : Int32)) hx hb hr (nb01 (Or.inl rfl)) (fun t ht hW9 => ⟨⟨(0 : Int32), Ω, rfl, ⟨⟨rfl, (Or.inl rfl)⟩, rfl⟩, by rw [oB, ht]; exact hW⟩, hS.F ht⟩) hS.2.2 dX0_isOpenedBy_33
  · rw [if_neg c_3] at hR
    have i_3 := rne c_3
    have b_c_3 := rIW c_3
    refine lv_aload_n hx hb dX0_isOpenedBy_18 rfl (lv_at hl 1 rfl) ?_
    refine o_get hx hb hts hown hK hW (inBlk_o h_p0) rfl ig0 6 (by decide) fl_X0_21 rfl dX0_isOpenedBy_19 ?_
    refine lv_iload_n hx hb dX0_isOpenedBy_22 rfl (lv_at hl 0 rfl) ?_
    refine o_iald hx hb hK hW (inBlk_a3 h_p0) (vp_in_iff.mpr ⟨by omega, by omega⟩) dX0_isOpenedBy_23 ?_
    refine lv_iload_n hx hb dX0_isOpenedBy_24 rfl (lv_at hl 3 rfl) ?_
    try have j_6 : 0 ≤ ((p0_0 4) ((p0_0 3) x1.toNatClampNeg).toNatClampNeg).toInt ∧ ((p0_0 4) ((p0_0 3) x1.toNatClampNeg).toNatClampNeg).toInt < 6 := BI_owner hB_p0 _
    refine lv_icmp_ne (tgt := 32) hx hb dX0_isOpenedBy_25 (by decide) (fun c_5 => ?_) (fun c_5 => ?_)
    · rw [if_neg c_5] at hR
      have i_5 := rne c_5
      refine lv_iconst (v := (0 : Int32)) hx hb dX0_isOpenedBy_32 (by decide) ?_
      subst hR
      exact W.zret (v := (0 : Int32)) hx hb hr (nb01 (Or.inl rfl)) (fun t ht hW9 => ⟨⟨(0 : Int32), Ω, rfl, ⟨⟨rfl, (Or.inl rfl)⟩, rfl⟩, by rw [oB, ht]; exact hW⟩, hS.F ht⟩) hS.2.2 dX0_isOpenedBy_33
    · rw [if_pos c_5] at hR
      have i_5 := congrArg Int32.toInt c_5
      refine lv_iconst (v := (1 : Int32)) hx hb dX0_isOpenedBy_28 (by decide) ?_
      refine lv_goto (tgt := 33) hx hb dX0_isOpenedBy_29 (by decide) ?_
      subst hR
      exact W.zret (v := (1 : Int32)) hx hb hr (nb01 (Or.inr rfl)) (fun t ht hW9 => ⟨⟨(1 : Int32), Ω, rfl, ⟨⟨rfl, (Or.inr rfl)⟩, rfl⟩, by rw [oB, ht]; exact hW⟩, hS.F ht⟩) hS.2.2 dX0_isOpenedBy_33
set_option maxHeartbeats 4000000 in
set_option maxRecDepth 100000 in
theorem c_X1_letIn (l : Launch) (G : Gm) (A : Nat → Prop) (Ω : Om) (p0 : Nat) (p1 : Nat) (p0_0 : Fn) (p0_1 : Fn) (p0_2 : Fn) (p0_3 : Fn) (p1_0 : Blk) (x2 : Int32) (x3 : Int32) (hd_p0_p1 : p0 + 5 ≤ p1 ∨ p1 + 13 ≤ p0) (hB_p1 : BlkInv p1_0) (hi_x2 : 0 ≤ x2.toInt ∧ x2.toInt < 6) (h_p0 : inDev G Ω p0 p0_0 p0_1 p0_2 p0_3) (h_p1 : inBlk G Ω p1 p1_0) : Met l yX1_letIn (wz yX1_letIn cX1_letIn 5 none) ({ frames := 1, cells := 0, slots := 0, locals := 24 } : Room) (va_Pc [.ref p0, .ref p1, .int x2, .int x3] (oS G A Ω)) (va_Qv (fun (Ω1 : Om) => inDev G Ω1 p0 ((f_X1_letIn p0_0 p0_2 p0_3 p1_0 x2 x3).1) p0_1 ((f_X1_letIn p0_0 p0_2 p0_3 p1_0 x2 x3).2) p0_3 ∧ (∀ q : Nat, (q < p0 ∨ p0 + 5 ≤ q) → Ω1 q = Ω q)) (oB G A) A) 0 0 A := by
  refine Met.ofW (cc := cX1_letIn) (maxL := 5) (ret := none) (by decide) rfl ?_
  intro p e s m args below meth c s₁ B hml hv
  obtain ⟨rfl, hW, hK, hN, hZ⟩ := hv
  have hx := B.exec
  have hb := B.bytes
  have hr := B.returns
  have hts : ∀ w ∈ gt, w.before _ s = true := fun w hw => atoms_spec (ws := wz yX1_letIn cX1_letIn 5 none) B.pre w (List.mem_cons_of_mem _ hw)
  have hown : s.vm.findClass RX1 = some m.cls := findClass_of_methodNamed B.named
  have hlocks := B.notSynchronized
  have hA : ∀ q, A q → A q := fun _ h => h
  have hS : va_S A s.heap s.heap [] := va_S.rf
  have hS0 := hS
  have hl := lv_entry ([.ref p0, .ref p1, .int x2, .int x3]) (n := 5) (Nat.le_of_ble_eq_true rfl)
  rw [lg_entry_eq]
  generalize (lg_sl ([.ref p0, .ref p1, .int x2, .int x3]) ++ List.replicate (5 - (lg_sl ([.ref p0, .ref p1, .int x2, .int x3])).length) Slot.unset).toArray = ls at hl ⊢
  have hl : lv_has ls 5 [(0, .ref p0), (1, .ref p1), (2, .int x2), (3, .int x3)] := hl
  have hE : ∀ q : Nat, (q < p0 ∨ p0 + 5 ≤ q) → Ω q = Ω q := by intros; rfl
  generalize hR : (f_X1_letIn p0_0 p0_2 p0_3 p1_0 x2 x3) = R
  rw [f_X1_letIn] at hR
  refine lv_iconst (v := (0 : Int32)) hx hb dX1_letIn_0 (by decide) ?_
  refine lv_istore (lv' := [(4, .int (0 : Int32)), (0, .ref p0), (1, .ref p1), (2, .int x2), (3, .int x3)]) hx hb dX1_letIn_1 hl (by decide) rfl (fun ls hl => ?_)
  have L3 : ∀ (n_2 : Nat) (x4_1 : Int32) (p0_0_1 : Fn) (Ω_3 : Om) (H : Heap) (locs : List Loc), (0 ≤ x4_1.toInt ∧ x4_1.toInt ≤ 12 ∧ 12 - x4_1.toInt < n_2) → inDev G Ω_3 p0 p0_0_1 p0_1 p0_2 p0_3 → inBlk G Ω_3 p1 p1_0 → (∀ q : Nat, (q < p0 ∨ p0 + 5 ≤ q) → Ω_3 q = Ω q) → oW G A Ω_3 H → va_S A s.heap H locs → ∀ ls : Array Slot, lv_has ls 5 [(0, .ref p0), (1, .ref p1), (2, .int x2), (3, .int x3), (4, .int x4_1)] → (f_X1_letIn_L3 p0_2 p0_3 p1_0 x2 x3 n_2 x4_1 p0_0_1) = R → W p l e (headSpec (wz yX1_letIn cX1_letIn 5 none) ({ frames := 1, cells := 0, slots := 0, locals := 24 } : Room)).room s m ([.ref p0, .ref p1, .int x2, .int x3] : List Value).toArray below meth c H locs 0 0 (MQ below (va_Qv (fun (Ω1 : Om) => inDev G Ω1 p0 (R.1) p0_1 (R.2) p0_3 ∧ (∀ q : Nat, (q < p0 ∨ p0 + 5 ≤ q) → Ω1 q = Ω q)) (oB G A) A) ([.ref p0, .ref p1, .int x2, .int x3] : List Value).toArray s 0 0 A) (F0 m 3 ls []) := by
    intro n_2
    induction n_2 with
    | zero =>
      intro x4_1 p0_0_1 Ω_3 H locs v_3_0 h_p0 h_p1 hE hW hS ls hl hR
      exfalso
      omega
    | succ n_2 ih3 =>
      intro x4_1 p0_0_1 Ω_3 H locs v_3_0 h_p0 h_p1 hE hW hS ls hl hR
      rw [f_X1_letIn_L3] at hR
      refine lv_iload hx hb dX1_letIn_3 (lv_at hl 4 rfl) ?_
      refine lv_aload_n hx hb dX1_letIn_5 rfl (lv_at hl 1 rfl) ?_
      refine o_get hx hb hts hown hK hW (inBlk_o h_p1) rfl ig0 1 (by decide) fl_X1_36 rfl dX1_letIn_6 ?_
      try have j_5 : 0 ≤ (p1_0 0 1).toInt ∧ (p1_0 0 1).toInt ≤ 12 := BI_flds (by assumption)
      refine lv_icmp_ge (tgt := 49) hx hb dX1_letIn_9 (by decide) (fun c_4 => ?_) (fun c_4 => ?_)
      · rw [if_pos c_4] at hR
        have i_4 := rle c_4
        refine lv_aload_n hx hb dX1_letIn_49 rfl (lv_at hl 0 rfl) ?_
        refine o_get hx hb hts hown hK hW (inDev_o h_p0) rfl ig1 2 (by decide) fl_X1_18 rfl dX1_letIn_50 ?_
        refine lv_iload_n hx hb dX1_letIn_53 rfl (lv_at hl 2 rfl) ?_
        refine lv_iconst (v := (1 : Int32)) hx hb dX1_letIn_54 (by decide) ?_
        refine wDev_2 hx hb hK hW hS hA h_p0 (vp_in_iff.mpr ⟨by omega, by omega⟩) dX1_letIn_55 (fun Ω_6 H locs h_p0 hF_6 hW hS => ?_)
        have h_p1 := h_p1.keep (fun q h1 h2 => hF_6 q (by omega))
        have hE : ∀ q : Nat, (q < p0 ∨ p0 + 5 ≤ q) → Ω_6 q = Ω q := fun q g0 => (hF_6 q (by omega)).trans (hE q g0)
        subst hR
        exact W.vret hx hb hr (fun t ht hW9 => ⟨⟨Ω_6, rfl, ⟨h_p0, hE⟩, by rw [oB, ht]; exact hW⟩, hS.F ht⟩) hS.2.2 dX1_letIn_56
      · rw [if_neg c_4] at hR
        have i_4 := rnle c_4
        refine lv_aload_n hx hb dX1_letIn_12 rfl (lv_at hl 1 rfl) ?_
        refine o_get hx hb hts hown hK hW (inBlk_o h_p1) rfl ig0 6 (by decide) fl_X1_47 rfl dX1_letIn_13 ?_
        refine lv_iload hx hb dX1_letIn_16 (lv_at hl 4 rfl) ?_
        refine o_iald hx hb hK hW (inBlk_a3 h_p1) (vp_in_iff.mpr ⟨by omega, by omega⟩) dX1_letIn_18 ?_
        refine lv_iload_n hx hb dX1_letIn_19 rfl (lv_at hl 2 rfl) ?_
        try have j_8 : 0 ≤ ((p1_0 4) x4_1.toNatClampNeg).toInt ∧ ((p1_0 4) x4_1.toNatClampNeg).toInt < 6 := BI_owner hB_p1 _
        refine lv_icmp_ne (tgt := 43) hx hb dX1_letIn_20 (by decide) (fun c_7 => ?_) (fun c_7 => ?_)
        · rw [if_neg c_7] at hR
          have i_7 := rne c_7
          refine lv_iinc (v := (x4_1 + (1 : Int32))) (lv' := [(4, .int (x4_1 + (1 : Int32))), (0, .ref p0), (1, .ref p1), (2, .int x2), (3, .int x3)]) hx hb dX1_letIn_43 hl (k := 4) rfl rfl (by decide) rfl (fun ls hl => ?_)
          refine lv_goto (tgt := 3) hx hb dX1_letIn_46 (by decide) ?_
          have j_9 : (1 : Int32).toInt = 1 := by decide
          try have j_10 : (x4_1 + (1 : Int32)).toInt = x4_1.toInt + (1 : Int32).toInt := fb_addI (by omega) (by omega)
          exact ih3 (x4_1 + (1 : Int32)) p0_0_1 Ω_3 H locs (by omega) h_p0 h_p1 hE hW hS ls (lv_sub hl [1, 2, 3, 4, 0] rfl) hR
        · rw [if_pos c_7] at hR
          have i_7 := congrArg Int32.toInt c_7
          refine lv_aload_n hx hb dX1_letIn_23 rfl (lv_at hl 0 rfl) ?_
          refine lv_aload_n hx hb dX1_letIn_24 rfl (lv_at hl 1 rfl) ?_
          refine lv_iload hx hb dX1_letIn_25 (lv_at hl 4 rfl) ?_
          refine lv_aload_n hx hb dX1_letIn_27 rfl (lv_at hl 0 rfl) ?_
          refine lv_iload_n hx hb dX1_letIn_28 rfl (lv_at hl 2 rfl) ?_
          refine lv_iload_n hx hb dX1_letIn_29 rfl (lv_at hl 3 rfl) ?_
          refine lv_aload_n hx hb dX1_letIn_30 rfl (lv_at hl 0 rfl) ?_
          refine o_get hx hb hts hown hK hW (inDev_o h_p0) rfl ig1 3 (by decide) fl_X1_22 rfl dX1_letIn_31 ?_
          refine lv_iload hx hb dX1_letIn_34 (lv_at hl 4 rfl) ?_
          refine o_iald hx hb hK hW (inDev_a3 h_p0) (vp_in_iff.mpr ⟨by omega, by omega⟩) dX1_letIn_36 ?_
          refine o_ViR (rest := [.int x4_1, .ref p1, .ref p0]) (As := [.int x2, .int x3, .int (p0_3 x4_1.toNatClampNeg)]) (n := 3) hx hb hml hown hts hK hN hZ hW hS hA (c_X1_bitsAfter l G A Ω_3 p0 p0_0_1 p0_1 p0_2 p0_3 x2 x3 (p0_3 x4_1.toNatClampNeg) (by omega) h_p0) (inDev_o h_p0) rfl (good_V ml_X1_106 im_X1_bitsAfter se_X1_bitsAfter ini_X1 co_X1_bitsAfter) (by decide +kernel) ⟨Nat.zero_le _, Nat.zero_le _⟩ hl.1 (Nat.le_of_ble_eq_true rfl) rfl rfl dX1_letIn_37 (fun r H locs hp hW hS => ?_)
          subst hp
          refine o_Vv (rest := []) (As := [.ref p1, .int x4_1, .int (f_X1_bitsAfter p0_0_1 p0_2 x2 x3 (p0_3 x4_1.toNatClampNeg))]) (n := 3) hx hb hml hown hts hK hN hZ hW hS hA (c_X1_putBits l G A Ω_3 p0 p1 p0_0_1 p0_1 p0_2 p0_3 p1_0 x4_1 (f_X1_bitsAfter p0_0_1 p0_2 x2 x3 (p0_3 x4_1.toNatClampNeg)) (by omega) hB_p1 (by omega) h_p0 h_p1) (inDev_o h_p0) rfl (good_V ml_X1_56 im_X1_putBits se_X1_putBits ini_X1 co_X1_putBits) (by decide +kernel) ⟨Nat.zero_le _, Nat.zero_le _⟩ hl.1 (Nat.le_of_ble_eq_true rfl) rfl rfl dX1_letIn_40 (fun Ω_12 H locs hp hW hS => ?_)
          obtain ⟨h_p0, hF_12⟩ := hp
          have h_p1 := h_p1.keep (fun q h1 h2 => hF_12 q (by omega))
          have hE : ∀ q : Nat, (q < p0 ∨ p0 + 5 ≤ q) → Ω_12 q = Ω q := fun q g0 => (hF_12 q (by omega)).trans (hE q g0)
          refine lv_iinc (v := (x4_1 + (1 : Int32))) (lv' := [(4, .int (x4_1 + (1 : Int32))), (0, .ref p0), (1, .ref p1), (2, .int x2), (3, .int x3)]) hx hb dX1_letIn_43 hl (k := 4) rfl rfl (by decide) rfl (fun ls hl => ?_)
          refine lv_goto (tgt := 3) hx hb dX1_letIn_46 (by decide) ?_
          have j_13 : (1 : Int32).toInt = 1 := by decide
          try have j_14 : (x4_1 + (1 : Int32)).toInt = x4_1.toInt + (1 : Int32).toInt := fb_addI (by omega) (by omega)
          exact ih3 (x4_1 + (1 : Int32)) (f_X1_putBits p0_0_1 p1_0 x4_1 (f_X1_bitsAfter p0_0_1 p0_2 x2 x3 (p0_3 x4_1.toNatClampNeg))) Ω_12 H locs (by omega) h_p0 h_p1 hE hW hS ls (lv_sub hl [1, 2, 3, 4, 0] rfl) hR
  have j_15 : (0 : Int32).toInt = 0 := by decide
  exact L3 4000 (0 : Int32) p0_0 Ω s.heap [] (by omega) h_p0 h_p1 hE hW hS ls (lv_sub hl [1, 2, 3, 4, 0] rfl) hR
