set_option maxHeartbeats 4000000 in
set_option maxRecDepth 100000 in
theorem c_X9_letIn (l : Launch) (G : Gm) (A : Nat → Prop) (Ω : Om) (p0 : Nat) (p0_0 : Fn) (p0_1 : Fn) (p0_2 : Fn) (p0_3 : Fn) (p0_4 : Int32) (p0_5 : Fn) (p0_6 : Fn) (p0_7 : Fn) (p0_8 : Int32) (p0_9 : Int32) (p0_10 : Int32) (p0_11 : Int32) (p0_12 : Int32) (p0_13 : Int32) (x1 : Int32) (x2 : Int32) (x3 : Int32) (x4 : Int32) (hM_p0 : ToldInv p0_0) (hi_x2 : 0 ≤ x2.toInt ∧ x2.toInt < 6) (hm : 0 ≤ x1.toInt ∧ x1.toInt ≤ 135) (h_p0 : inMod G Ω p0 p0_0 p0_1 p0_2 p0_3 p0_4 p0_5 p0_6 p0_7 p0_8 p0_9 p0_10 p0_11 p0_12 p0_13) : Met l yX9_letIn (wz yX9_letIn cX9_letIn 9 none) ({ frames := 1, cells := 0, slots := 0, locals := 23 } : Room) (va_Pc [.ref p0, .int x1, .int x2, .int x3, .int x4] (oS G A Ω)) (va_Qv (fun (Ω1 : Om) => inMod G Ω1 p0 p0_0 p0_1 ((f_X9_letIn p0_0 p0_2 x1 x2 x3 x4)) p0_3 p0_4 p0_5 p0_6 p0_7 p0_8 p0_9 p0_10 p0_11 p0_12 p0_13 ∧ (∀ q : Nat, (q < p0 ∨ p0 + 8 ≤ q) → Ω1 q = Ω q)) (oB G A) A) 0 0 A := by
  refine Met.ofW (cc := cX9_letIn) (maxL := 9) (ret := none) (by decide) rfl ?_
  intro p e s m args below meth c s₁ B hml hv
  obtain ⟨rfl, hW, hK, hN, hZ⟩ := hv
  have hx := B.exec
  have hb := B.bytes
  have hr := B.returns
  have hts : ∀ w ∈ gt, w.before _ s = true := fun w hw => atoms_spec (ws := wz yX9_letIn cX9_letIn 9 none) B.pre w (List.mem_cons_of_mem _ hw)
  have hown : s.vm.findClass RX9 = some m.cls := findClass_of_methodNamed B.named
  have hlocks := B.notSynchronized
  have hA : ∀ q, A q → A q := fun _ h => h
  have hS : va_S A s.heap s.heap [] := va_S.rf
  have hS0 := hS
  have hl := lv_entry ([.ref p0, .int x1, .int x2, .int x3, .int x4]) (n := 9) (Nat.le_of_ble_eq_true rfl)
  rw [lg_entry_eq]
  generalize (lg_sl ([.ref p0, .int x1, .int x2, .int x3, .int x4]) ++ List.replicate (9 - (lg_sl ([.ref p0, .int x1, .int x2, .int x3, .int x4])).length) Slot.unset).toArray = ls at hl ⊢
  have hl : lv_has ls 9 [(0, .ref p0), (1, .int x1), (2, .int x2), (3, .int x3), (4, .int x4)] := hl
  have hE : ∀ q : Nat, (q < p0 ∨ p0 + 8 ≤ q) → Ω q = Ω q := by intros; rfl
  generalize hR : (f_X9_letIn p0_0 p0_2 x1 x2 x3 x4) = R
  rw [f_X9_letIn] at hR
  refine lv_iconst (v := (0 : Int32)) hx hb dX9_letIn_0 (by decide) ?_
  refine lv_istore (lv' := [(5, .int (0 : Int32)), (0, .ref p0), (1, .int x1), (2, .int x2), (3, .int x3), (4, .int x4)]) hx hb dX9_letIn_1 hl (by decide) rfl (fun ls hl => ?_)
  have L3 : ∀ (n_2 : Nat) (x5_1 : Int32) (p0_2_1 : Fn) (Ω_3 : Om) (H : Heap) (locs : List Loc), (0 ≤ x5_1.toInt ∧ x5_1.toInt ≤ 12 ∧ 12 - x5_1.toInt < n_2) → inMod G Ω_3 p0 p0_0 p0_1 p0_2_1 p0_3 p0_4 p0_5 p0_6 p0_7 p0_8 p0_9 p0_10 p0_11 p0_12 p0_13 → (∀ q : Nat, (q < p0 ∨ p0 + 8 ≤ q) → Ω_3 q = Ω q) → oW G A Ω_3 H → va_S A s.heap H locs → ∀ ls : Array Slot, lv_has ls 9 [(0, .ref p0), (1, .int x1), (2, .int x2), (3, .int x3), (4, .int x4), (5, .int x5_1)] → (f_X9_letIn_L3 p0_0 x1 x2 x3 x4 n_2 x5_1 p0_2_1) = R → W p l e (headSpec (wz yX9_letIn cX9_letIn 9 none) ({ frames := 1, cells := 0, slots := 0, locals := 23 } : Room)).room s m ([.ref p0, .int x1, .int x2, .int x3, .int x4] : List Value).toArray below meth c H locs 0 0 (MQ below (va_Qv (fun (Ω1 : Om) => inMod G Ω1 p0 p0_0 p0_1 (R) p0_3 p0_4 p0_5 p0_6 p0_7 p0_8 p0_9 p0_10 p0_11 p0_12 p0_13 ∧ (∀ q : Nat, (q < p0 ∨ p0 + 8 ≤ q) → Ω1 q = Ω q)) (oB G A) A) ([.ref p0, .int x1, .int x2, .int x3, .int x4] : List Value).toArray s 0 0 A) (F0 m 3 ls []) := by
    intro n_2
    induction n_2 with
    | zero =>
      intro x5_1 p0_2_1 Ω_3 H locs v_3_0 h_p0 hE hW hS ls hl hR
      exfalso
      omega
    | succ n_2 ih3 =>
      intro x5_1 p0_2_1 Ω_3 H locs v_3_0 h_p0 hE hW hS ls hl hR
      rw [f_X9_letIn_L3] at hR
      refine lv_iload hx hb dX9_letIn_3 (lv_at hl 5 rfl) ?_
      refine lv_aload_n hx hb dX9_letIn_5 rfl (lv_at hl 0 rfl) ?_
      refine o_ViR (rest := [.int x5_1]) (As := []) (n := 0) hx hb hml hown hts hK hN hZ hW hS hA (c_X9_fields l G A Ω_3 p0 p0_0 p0_1 p0_2_1 p0_3 p0_4 p0_5 p0_6 p0_7 p0_8 p0_9 p0_10 p0_11 p0_12 p0_13 hM_p0 h_p0) (inMod_o h_p0) rfl (good_V ml_X9_35 im_X9_fields se_X9_fields ini_X9 co_X9_fields) (by decide +kernel) ⟨Nat.zero_le _, Nat.zero_le _⟩ hl.1 (Nat.le_of_ble_eq_true rfl) rfl rfl dX9_letIn_6 (fun r H locs hp hW hS => ?_)
      subst hp
      try have j_6 : 0 ≤ (f_X9_fields p0_0).toInt ∧ (f_X9_fields p0_0).toInt ≤ 12 := TI_91 hM_p0
      refine lv_icmp_ge (tgt := 148) hx hb dX9_letIn_9 (by decide) (fun c_5 => ?_) (fun c_5 => ?_)
      · rw [if_pos c_5] at hR
        have i_5 := rle c_5
        refine lv_iload hx hb dX9_letIn_148 (lv_at hl 4 rfl) ?_
        refine lv_bipush (v := (-9 : Int32)) hx hb dX9_letIn_150 (by decide) ?_
        have j_8 : (-9 : Int32).toInt = -9 := by decide
        refine lv_icmp_ne (tgt := 167) hx hb dX9_letIn_152 (by decide) (fun c_7 => ?_) (fun c_7 => ?_)
        · rw [if_neg c_7] at hR
          have i_7 := rne c_7
          subst hR
          exact W.vret hx hb hr (fun t ht hW9 => ⟨⟨Ω_3, rfl, ⟨h_p0, hE⟩, by rw [oB, ht]; exact hW⟩, hS.F ht⟩) hS.2.2 dX9_letIn_167
        · rw [if_pos c_7] at hR
          have i_7 := congrArg Int32.toInt c_7
          refine lv_aload_n hx hb dX9_letIn_155 rfl (lv_at hl 0 rfl) ?_
          refine o_get hx hb hts hown hK hW (inMod_o h_p0) rfl ig9 2 (by decide) fl_X9_16 rfl dX9_letIn_156 ?_
          refine lv_iload_n hx hb dX9_letIn_159 rfl (lv_at hl 1 rfl) ?_
          refine lv_bipush (v := (30 : Int32)) hx hb dX9_letIn_160 (by decide) ?_
          refine lv_iadd hx hb dX9_letIn_162 ?_
          refine lv_iload_n hx hb dX9_letIn_163 rfl (lv_at hl 2 rfl) ?_
          refine lv_iadd hx hb dX9_letIn_164 ?_
          refine lv_iconst (v := (1 : Int32)) hx hb dX9_letIn_165 (by decide) ?_
          have j_9 : (30 : Int32).toInt = 30 := by decide
          try have j_10 : (x1 + (30 : Int32)).toInt = x1.toInt + (30 : Int32).toInt := fb_addI (by omega) (by omega)
          try have j_11 : ((x1 + (30 : Int32)) + x2).toInt = (x1 + (30 : Int32)).toInt + x2.toInt := fb_addI (by omega) (by omega)
          refine wMod_2 hx hb hK hW hS hA h_p0 (vp_in_iff.mpr ⟨by omega, by omega⟩) dX9_letIn_166 (fun Ω_12 H locs h_p0 hF_12 hW hS => ?_)
          have hE : ∀ q : Nat, (q < p0 ∨ p0 + 8 ≤ q) → Ω_12 q = Ω q := fun q g0 => (hF_12 q (by omega)).trans (hE q g0)
          subst hR
          exact W.vret hx hb hr (fun t ht hW9 => ⟨⟨Ω_12, rfl, ⟨h_p0, hE⟩, by rw [oB, ht]; exact hW⟩, hS.F ht⟩) hS.2.2 dX9_letIn_167
      · rw [if_neg c_5] at hR
        have i_5 := rnle c_5
        refine lv_aload_n hx hb dX9_letIn_12 rfl (lv_at hl 0 rfl) ?_
        refine o_get hx hb hts hown hK hW (inMod_o h_p0) rfl ig9 0 (by decide) fl_X9_7 rfl dX9_letIn_13 ?_
        refine lv_bipush (v := (18 : Int32)) hx hb dX9_letIn_16 (by decide) ?_
        refine lv_iload hx hb dX9_letIn_18 (lv_at hl 5 rfl) ?_
        refine lv_iadd hx hb dX9_letIn_20 ?_
        have j_13 : (18 : Int32).toInt = 18 := by decide
        try have j_14 : ((18 : Int32) + x5_1).toInt = (18 : Int32).toInt + x5_1.toInt := fb_addI (by omega) (by omega)
        refine o_iald hx hb hK hW (inMod_a0 h_p0) (vp_in_iff.mpr ⟨by omega, by omega⟩) dX9_letIn_21 ?_
        refine lv_iload_n hx hb dX9_letIn_22 rfl (lv_at hl 2 rfl) ?_
        try have j_16 : 0 ≤ (p0_0 ((18 : Int32) + x5_1).toNatClampNeg).toInt ∧ (p0_0 ((18 : Int32) + x5_1).toNatClampNeg).toInt < 6 := TI_18 hM_p0 (by omega) (by omega)
        refine lv_icmp_ne (tgt := 142) hx hb dX9_letIn_23 (by decide) (fun c_15 => ?_) (fun c_15 => ?_)
        · rw [if_neg c_15] at hR
          have i_15 := rne c_15
          refine lv_iinc (v := (x5_1 + (1 : Int32))) (lv' := [(5, .int (x5_1 + (1 : Int32))), (0, .ref p0), (1, .int x1), (2, .int x2), (3, .int x3), (4, .int x4)]) hx hb dX9_letIn_142 hl (k := 5) rfl rfl (by decide) rfl (fun ls hl => ?_)
          refine lv_goto (tgt := 3) hx hb dX9_letIn_145 (by decide) ?_
          have j_17 : (1 : Int32).toInt = 1 := by decide
          try have j_18 : (x5_1 + (1 : Int32)).toInt = x5_1.toInt + (1 : Int32).toInt := fb_addI (by omega) (by omega)
          exact ih3 (x5_1 + (1 : Int32)) p0_2_1 Ω_3 H locs (by omega) h_p0 hE hW hS ls (lv_sub hl [1, 2, 3, 4, 5, 0] rfl) hR
        · rw [if_pos c_15] at hR
          have i_15 := congrArg Int32.toInt c_15
          refine lv_aload_n hx hb dX9_letIn_26 rfl (lv_at hl 0 rfl) ?_
          refine o_get hx hb hts hown hK hW (inMod_o h_p0) rfl ig9 2 (by decide) fl_X9_16 rfl dX9_letIn_27 ?_
          refine lv_iload_n hx hb dX9_letIn_30 rfl (lv_at hl 1 rfl) ?_
          refine lv_bipush (v := (12 : Int32)) hx hb dX9_letIn_31 (by decide) ?_
          refine lv_iadd hx hb dX9_letIn_33 ?_
          refine lv_iload hx hb dX9_letIn_34 (lv_at hl 5 rfl) ?_
          refine lv_iadd hx hb dX9_letIn_36 ?_
          have j_19 : (12 : Int32).toInt = 12 := by decide
          try have j_20 : (x1 + (12 : Int32)).toInt = x1.toInt + (12 : Int32).toInt := fb_addI (by omega) (by omega)
          try have j_21 : ((x1 + (12 : Int32)) + x5_1).toInt = (x1 + (12 : Int32)).toInt + x5_1.toInt := fb_addI (by omega) (by omega)
          refine o_iald hx hb hK hW (inMod_a2 h_p0) (vp_in_iff.mpr ⟨by omega, by omega⟩) dX9_letIn_37 ?_
          refine lv_istore (lv' := [(6, .int (p0_2_1 ((x1 + (12 : Int32)) + x5_1).toNatClampNeg)), (0, .ref p0), (1, .int x1), (2, .int x2), (3, .int x3), (4, .int x4), (5, .int x5_1)]) hx hb dX9_letIn_38 hl (by decide) rfl (fun ls hl => ?_)
          refine lv_iload_n hx hb dX9_letIn_40 rfl (lv_at hl 4 rfl) ?_
          refine lv_aload_n hx hb dX9_letIn_41 rfl (lv_at hl 1 rfl) ?_
          refine o_get hx hb hts hown hK hW (inMod_o h_p0) rfl ig9 0 (by decide) fl_X9_7 rfl dX9_letIn_42 ?_
          refine lv_bipush (v := (30 : Int32)) hx hb dX9_letIn_45 (by decide) ?_
          refine lv_iload hx hb dX9_letIn_47 (lv_at hl 6 rfl) ?_
          refine lv_iadd hx hb dX9_letIn_49 ?_
          have j_22 : (30 : Int32).toInt = 30 := by decide
          try have j_23 : ((30 : Int32) + x5_1).toInt = (30 : Int32).toInt + x5_1.toInt := fb_addI (by omega) (by omega)
          refine o_iald hx hb hK hW (inMod_a0 h_p0) (vp_in_iff.mpr ⟨by omega, by omega⟩) dX9_letIn_50 ?_
          refine lv_ishr hx hb dX9_letIn_51 ?_
          refine lv_aload_n hx hb dX9_letIn_52 rfl (lv_at hl 1 rfl) ?_
          refine lv_iload hx hb dX9_letIn_53 (lv_at hl 6 rfl) ?_
          refine o_ViR (rest := [.int (x3 >>> ((p0_0 ((30 : Int32) + x5_1).toNatClampNeg) &&& 31))]) (As := [.int x5_1]) (n := 1) hx hb hml hown hts hK hN hZ hW hS hA (c_X9_most l G A Ω_3 p0 p0_0 p0_1 p0_2_1 p0_3 p0_4 p0_5 p0_6 p0_7 p0_8 p0_9 p0_10 p0_11 p0_12 p0_13 x5_1 hM_p0 (by omega) h_p0) (inMod_o h_p0) rfl (good_V ml_X9_46 im_X9_most se_X9_most ini_X9 co_X9_most) (by decide +kernel) ⟨Nat.zero_le _, Nat.zero_le _⟩ hl.1 (Nat.le_of_ble_eq_true rfl) rfl rfl dX9_letIn_55 (fun r H locs hp hW hS => ?_)
          subst hp
          refine lv_iand hx hb dX9_letIn_58 ?_
          refine lv_istore (lv' := [(7, .int ((x3 >>> ((p0_0 ((30 : Int32) + x5_1).toNatClampNeg) &&& 31)) &&& (f_X9_most p0_0 x5_1))), (6, .int (p0_2_1 ((x1 + (12 : Int32)) + x5_1).toNatClampNeg)), (0, .ref p0), (1, .int x1), (2, .int x2), (3, .int x3), (4, .int x4), (5, .int x5_1)]) hx hb dX9_letIn_59 hl (by decide) rfl (fun ls hl => ?_)
          refine lv_iload hx hb dX9_letIn_61 (lv_at hl 6 rfl) ?_
          refine lv_bipush (v := (-9 : Int32)) hx hb dX9_letIn_63 (by decide) ?_
          have J86 : ∀ (s0_25 : Int32) (H : Heap) (locs : List Loc), oW G A Ω_3 H → va_S A s.heap H locs → ∀ ls : Array Slot, lv_has ls 9 [(0, .ref p0), (1, .int x1), (2, .int x2), (3, .int x3), (4, .int x4), (5, .int x5_1), (6, .int (p0_2_1 ((x1 + (12 : Int32)) + x5_1).toNatClampNeg)), (7, .int ((x3 >>> ((p0_0 ((30 : Int32) + x5_1).toNatClampNeg) &&& 31)) &&& (f_X9_most p0_0 x5_1)))] → (f_X9_letIn_J86 p0_2_1 x1 x2 x4 x5_1 (p0_2_1 ((x1 + (12 : Int32)) + x5_1).toNatClampNeg) ((x3 >>> ((p0_0 ((30 : Int32) + x5_1).toNatClampNeg) &&& 31)) &&& (f_X9_most p0_0 x5_1)) (f_X9_letIn_L3 p0_0 x1 x2 x3 x4 n_2) s0_25) = R → W p l e (headSpec (wz yX9_letIn cX9_letIn 9 none) ({ frames := 1, cells := 0, slots := 0, locals := 23 } : Room)).room s m ([.ref p0, .int x1, .int x2, .int x3, .int x4] : List Value).toArray below meth c H locs 0 0 (MQ below (va_Qv (fun (Ω1 : Om) => inMod G Ω1 p0 p0_0 p0_1 (R) p0_3 p0_4 p0_5 p0_6 p0_7 p0_8 p0_9 p0_10 p0_11 p0_12 p0_13 ∧ (∀ q : Nat, (q < p0 ∨ p0 + 8 ≤ q) → Ω1 q = Ω q)) (oB G A) A) ([.ref p0, .int x1, .int x2, .int x3, .int x4] : List Value).toArray s 0 0 A) (F0 m 86 ls [.int s0_25]) := by
            intro s0_25 H locs hW hS ls hl hR
            rw [f_X9_letIn_J86] at hR
            refine lv_istore (lv' := [(8, .int s0_25), (0, .ref p0), (1, .int x1), (2, .int x2), (3, .int x3), (4, .int x4), (5, .int x5_1), (6, .int (p0_2_1 ((x1 + (12 : Int32)) + x5_1).toNatClampNeg)), (7, .int ((x3 >>> ((p0_0 ((30 : Int32) + x5_1).toNatClampNeg) &&& 31)) &&& (f_X9_most p0_0 x5_1)))]) hx hb dX9_letIn_86 hl (by decide) rfl (fun ls hl => ?_)
            refine lv_aload_n hx hb dX9_letIn_88 rfl (lv_at hl 1 rfl) ?_
            refine o_get hx hb hts hown hK hW (inMod_o h_p0) rfl ig9 2 (by decide) fl_X9_16 rfl dX9_letIn_89 ?_
            refine lv_iload_n hx hb dX9_letIn_92 rfl (lv_at hl 2 rfl) ?_
            refine lv_iload hx hb dX9_letIn_93 (lv_at hl 6 rfl) ?_
            refine lv_iadd hx hb dX9_letIn_95 ?_
            refine lv_iload hx hb dX9_letIn_96 (lv_at hl 0 rfl) ?_
            have J108 : ∀ (s2_26 : Int32) (H : Heap) (locs : List Loc), oW G A Ω_3 H → va_S A s.heap H locs → ∀ ls : Array Slot, lv_has ls 9 [(0, .ref p0), (1, .int x1), (2, .int x2), (3, .int x3), (4, .int x4), (5, .int x5_1), (7, .int ((x3 >>> ((p0_0 ((30 : Int32) + x5_1).toNatClampNeg) &&& 31)) &&& (f_X9_most p0_0 x5_1)))] → (f_X9_letIn_J108 p0_2_1 (x1 + x5_1) x1 x2 x5_1 ((x3 >>> ((p0_0 ((30 : Int32) + x5_1).toNatClampNeg) &&& 31)) &&& (f_X9_most p0_0 x5_1)) (f_X9_letIn_L3 p0_0 x1 x2 x3 x4 n_2) s2_26) = R → W p l e (headSpec (wz yX9_letIn cX9_letIn 9 none) ({ frames := 1, cells := 0, slots := 0, locals := 23 } : Room)).room s m ([.ref p0, .int x1, .int x2, .int x3, .int x4] : List Value).toArray below meth c H locs 0 0 (MQ below (va_Qv (fun (Ω1 : Om) => inMod G Ω1 p0 p0_0 p0_1 (R) p0_3 p0_4 p0_5 p0_6 p0_7 p0_8 p0_9 p0_10 p0_11 p0_12 p0_13 ∧ (∀ q : Nat, (q < p0 ∨ p0 + 8 ≤ q) → Ω1 q = Ω q)) (oB G A) A) ([.ref p0, .int x1, .int x2, .int x3, .int x4] : List Value).toArray s 0 0 A) (F0 m 108 ls [.int s2_26, .int (x1 + x5_1), .ref (p0 + 3)]) := by
              intro s2_26 H locs hW hS ls hl hR
              rw [f_X9_letIn_J108] at hR
              refine lv_aload_n hx hb dX9_letIn_108 rfl (lv_at hl 0 rfl) ?_
              refine o_get hx hb hts hown hK hW (inMod_o h_p0) rfl ig9 2 (by decide) fl_X9_16 rfl dX9_letIn_109 ?_
              refine lv_iload_n hx hb dX9_letIn_112 rfl (lv_at hl 1 rfl) ?_
              refine lv_iload hx hb dX9_letIn_113 (lv_at hl 5 rfl) ?_
              refine lv_iadd hx hb dX9_letIn_115 ?_
              try have j_27 : (x1 + x5_1).toInt = x1.toInt + x5_1.toInt := fb_addI (by omega) (by omega)
              refine o_iald hx hb hK hW (inMod_a2 h_p0) (vp_in_iff.mpr ⟨by omega, by omega⟩) dX9_letIn_116 ?_
              refine lv_iload hx hb dX9_letIn_117 (lv_at hl 6 rfl) ?_
              refine lv_aload_n hx hb dX9_letIn_119 rfl (lv_at hl 0 rfl) ?_
              refine o_get hx hb hts hown hK hW (inMod_o h_p0) rfl ig9 2 (by decide) fl_X9_16 rfl dX9_letIn_120 ?_
              refine lv_iload_n hx hb dX9_letIn_123 rfl (lv_at hl 1 rfl) ?_
              refine lv_bipush (v := (30 : Int32)) hx hb dX9_letIn_124 (by decide) ?_
              refine lv_iadd hx hb dX9_letIn_126 ?_
              refine lv_iload_n hx hb dX9_letIn_127 rfl (lv_at hl 2 rfl) ?_
              refine lv_iadd hx hb dX9_letIn_128 ?_
              try have j_28 : (x1 + (30 : Int32)).toInt = x1.toInt + (30 : Int32).toInt := fb_addI (by omega) (by omega)
              try have j_29 : ((x1 + (30 : Int32)) + x2).toInt = (x1 + (30 : Int32)).toInt + x2.toInt := fb_addI (by omega) (by omega)
              refine o_iald hx hb hK hW (inMod_a2 h_p0) (vp_in_iff.mpr ⟨by omega, by omega⟩) dX9_letIn_129 ?_
              have J138 : ∀ (s5_30 : Int32) (H : Heap) (locs : List Loc), oW G A Ω_3 H → va_S A s.heap H locs → ∀ ls : Array Slot, lv_has ls 9 [(0, .ref p0), (1, .int x1), (2, .int x2), (3, .int x3), (4, .int x4), (5, .int x5_1)] → (f_X9_letIn_J138 p0_2_1 (x1 + x5_1) s2_26 (p0_2_1 (x1 + x5_1).toNatClampNeg) ((x3 >>> ((p0_0 ((30 : Int32) + x5_1).toNatClampNeg) &&& 31)) &&& (f_X9_most p0_0 x5_1)) x5_1 (f_X9_letIn_L3 p0_0 x1 x2 x3 x4 n_2) s5_30) = R → W p l e (headSpec (wz yX9_letIn cX9_letIn 9 none) ({ frames := 1, cells := 0, slots := 0, locals := 23 } : Room)).room s m ([.ref p0, .int x1, .int x2, .int x3, .int x4] : List Value).toArray below meth c H locs 0 0 (MQ below (va_Qv (fun (Ω1 : Om) => inMod G Ω1 p0 p0_0 p0_1 (R) p0_3 p0_4 p0_5 p0_6 p0_7 p0_8 p0_9 p0_10 p0_11 p0_12 p0_13 ∧ (∀ q : Nat, (q < p0 ∨ p0 + 8 ≤ q) → Ω1 q = Ω q)) (oB G A) A) ([.ref p0, .int x1, .int x2, .int x3, .int x4] : List Value).toArray s 0 0 A) (F0 m 138 ls [.int s5_30, .int ((x3 >>> ((p0_0 ((30 : Int32) + x5_1).toNatClampNeg) &&& 31)) &&& (f_X9_most p0_0 x5_1)), .int (p0_2_1 (x1 + x5_1).toNatClampNeg), .int s2_26, .int (x1 + x5_1), .ref (p0 + 3)]) := by
                intro s5_30 H locs hW hS ls hl hR
                rw [f_X9_letIn_J138] at hR
                refine o_SiR (rest := [.int (x1 + x5_1), .ref (p0 + 3)]) (As := [.int s2_26, .int (p0_2_1 (x1 + x5_1).toNatClampNeg), .int ((x3 >>> ((p0_0 ((30 : Int32) + x5_1).toNatClampNeg) &&& 31)) &&& (f_X9_most p0_0 x5_1)), .int s5_30]) (n := 4) hx hb hml hown hts hK hN hZ hW hS hA (c_X9_by l G A Ω_3 s2_26 (p0_2_1 (x1 + x5_1).toNatClampNeg) ((x3 >>> ((p0_0 ((30 : Int32) + x5_1).toNatClampNeg) &&& 31)) &&& (f_X9_most p0_0 x5_1)) s5_30) ml_X9_81 st_X9_by ini_X9 co_X9_by (by decide +kernel) ⟨Nat.zero_le _, Nat.zero_le _⟩ hl.1 (Nat.le_of_ble_eq_true rfl) rfl rfl dX9_letIn_138 (fun r H locs hp hW hS => ?_)
                subst hp
                refine wMod_2 hx hb hK hW hS hA h_p0 (vp_in_iff.mpr ⟨by omega, by omega⟩) dX9_letIn_141 (fun Ω_32 H locs h_p0 hF_32 hW hS => ?_)
                have hE : ∀ q : Nat, (q < p0 ∨ p0 + 8 ≤ q) → Ω_32 q = Ω q := fun q g0 => (hF_32 q (by omega)).trans (hE q g0)
                refine lv_iinc (v := (x5_1 + (1 : Int32))) (lv' := [(5, .int (x5_1 + (1 : Int32))), (0, .ref p0), (1, .int x1), (2, .int x2), (3, .int x3), (4, .int x4)]) hx hb dX9_letIn_142 hl (k := 5) rfl rfl (by decide) rfl (fun ls hl => ?_)
                refine lv_goto (tgt := 3) hx hb dX9_letIn_145 (by decide) ?_
                have j_33 : (1 : Int32).toInt = 1 := by decide
                try have j_34 : (x5_1 + (1 : Int32)).toInt = x5_1.toInt + (1 : Int32).toInt := fb_addI (by omega) (by omega)
                exact ih3 (x5_1 + (1 : Int32)) (upd p0_2_1 (x1 + x5_1).toNatClampNeg (f_X9_by s2_26 (p0_2_1 (x1 + x5_1).toNatClampNeg) ((x3 >>> ((p0_0 ((30 : Int32) + x5_1).toNatClampNeg) &&& 31)) &&& (f_X9_most p0_0 x5_1)) s5_30)) Ω_32 H locs (by omega) h_p0 hE hW hS ls (lv_sub hl [1, 2, 3, 4, 5, 0] rfl) hR
              have j_36 : (0 : Int32).toInt = 0 := by decide
              refine lv_if_ne (tgt := 137) hx hb dX9_letIn_130 (by decide) (fun c_35 => ?_) (fun c_35 => ?_)
              · rw [if_neg c_35] at hR
                have i_35 := rne c_35
                refine lv_iconst (v := (0 : Int32)) hx hb dX9_letIn_137 (by decide) ?_
                exact J138 (0 : Int32) H locs hW hS ls (lv_sub hl [0, 1, 2, 3, 4, 5] rfl) hR
              · rw [if_pos c_35] at hR
                have i_35 := congrArg Int32.toInt c_35
                refine lv_iconst (v := (1 : Int32)) hx hb dX9_letIn_133 (by decide) ?_
                refine lv_goto (tgt := 138) hx hb dX9_letIn_134 (by decide) ?_
                have j_37 : (1 : Int32).toInt = 1 := by decide
                exact J138 (1 : Int32) H locs hW hS ls (lv_sub hl [0, 1, 2, 3, 4, 5] rfl) hR
            have j_39 : (0 : Int32).toInt = 0 := by decide
            refine lv_if_eq (tgt := 106) hx hb dX9_letIn_98 (by decide) (fun c_38 => ?_) (fun c_38 => ?_)
            · rw [if_pos c_38] at hR
              have i_38 := congrArg Int32.toInt c_38
              refine lv_iload hx hb dX9_letIn_106 (lv_at hl 5 rfl) ?_
              exact J108 x4 H locs hW hS ls (lv_sub hl [1, 2, 3, 4, 5, 6, 8] rfl) hR
            · rw [if_neg c_38] at hR
              have i_38 := rne c_38
              refine lv_iload hx hb dX9_letIn_101 (lv_at hl 7 rfl) ?_
              refine lv_goto (tgt := 108) hx hb dX9_letIn_103 (by decide) ?_
              exact J108 (p0_2_1 ((x1 + (12 : Int32)) + x5_1).toNatClampNeg) H locs hW hS ls (lv_sub hl [1, 2, 3, 4, 5, 6, 8] rfl) hR
          have J81 : ∀ (H : Heap) (locs : List Loc), oW G A Ω_3 H → va_S A s.heap H locs → ∀ ls : Array Slot, lv_has ls 9 [(0, .ref p0), (1, .int x1), (2, .int x2), (3, .int x3), (4, .int x4), (5, .int x5_1), (6, .int (p0_2_1 ((x1 + (12 : Int32)) + x5_1).toNatClampNeg)), (7, .int ((x3 >>> ((p0_0 ((30 : Int32) + x5_1).toNatClampNeg) &&& 31)) &&& (f_X9_most p0_0 x5_1)))] → (f_X9_letIn_J81 p0_2_1 x1 x2 x4 x5_1 (p0_2_1 ((x1 + (12 : Int32)) + x5_1).toNatClampNeg) ((x3 >>> ((p0_0 ((30 : Int32) + x5_1).toNatClampNeg) &&& 31)) &&& (f_X9_most p0_0 x5_1)) (f_X9_letIn_L3 p0_0 x1 x2 x3 x4 n_2)) = R → W p l e (headSpec (wz yX9_letIn cX9_letIn 9 none) ({ frames := 1, cells := 0, slots := 0, locals := 23 } : Room)).room s m ([.ref p0, .int x1, .int x2, .int x3, .int x4] : List Value).toArray below meth c H locs 0 0 (MQ below (va_Qv (fun (Ω1 : Om) => inMod G Ω1 p0 p0_0 p0_1 (R) p0_3 p0_4 p0_5 p0_6 p0_7 p0_8 p0_9 p0_10 p0_11 p0_12 p0_13 ∧ (∀ q : Nat, (q < p0 ∨ p0 + 8 ≤ q) → Ω1 q = Ω q)) (oB G A) A) ([.ref p0, .int x1, .int x2, .int x3, .int x4] : List Value).toArray s 0 0 A) (F0 m 81 ls []) := by
            intro H locs hW hS ls hl hR
            rw [f_X9_letIn_J81] at hR
            refine lv_iconst (v := (1 : Int32)) hx hb dX9_letIn_81 (by decide) ?_
            refine lv_goto (tgt := 86) hx hb dX9_letIn_82 (by decide) ?_
            have j_41 : (1 : Int32).toInt = 1 := by decide
            exact J86 (1 : Int32) H locs hW hS ls (lv_sub hl [0, 1, 2, 3, 4, 5, 6, 7] rfl) hR
          have j_43 : (-9 : Int32).toInt = -9 := by decide
          refine lv_icmp_eq (tgt := 81) hx hb dX9_letIn_65 (by decide) (fun c_42 => ?_) (fun c_42 => ?_)
          · rw [if_pos c_42] at hR
            have i_42 := congrArg Int32.toInt c_42
            exact J81 H locs hW hS ls (lv_sub hl [2, 3, 4, 5, 6, 7, 1, 0] rfl) hR
          · rw [if_neg c_42] at hR
            have i_42 := rne c_42
            refine lv_iload hx hb dX9_letIn_68 (lv_at hl 1 rfl) ?_
            refine lv_iconst (v := (1 : Int32)) hx hb dX9_letIn_70 (by decide) ?_
            have j_45 : (1 : Int32).toInt = 1 := by decide
            refine lv_icmp_eq (tgt := 81) hx hb dX9_letIn_71 (by decide) (fun c_44 => ?_) (fun c_44 => ?_)
            · rw [if_pos c_44] at hR
              have i_44 := congrArg Int32.toInt c_44
              exact J81 H locs hW hS ls (lv_sub hl [2, 3, 4, 5, 6, 7, 1, 0] rfl) hR
            · rw [if_neg c_44] at hR
              have i_44 := rne c_44
              refine lv_iload hx hb dX9_letIn_74 (lv_at hl 1 rfl) ?_
              refine lv_bipush (v := (6 : Int32)) hx hb dX9_letIn_76 (by decide) ?_
              have j_47 : (6 : Int32).toInt = 6 := by decide
              refine lv_icmp_ne (tgt := 85) hx hb dX9_letIn_78 (by decide) (fun c_46 => ?_) (fun c_46 => ?_)
              · rw [if_neg c_46] at hR
                have i_46 := rne c_46
                refine lv_iconst (v := (0 : Int32)) hx hb dX9_letIn_85 (by decide) ?_
                have j_48 : (0 : Int32).toInt = 0 := by decide
                exact J86 (0 : Int32) H locs hW hS ls (lv_sub hl [2, 3, 4, 5, 6, 7, 1, 0] rfl) hR
              · rw [if_pos c_46] at hR
                have i_46 := congrArg Int32.toInt c_46
                exact J81 H locs hW hS ls (lv_sub hl [2, 3, 4, 5, 6, 7, 1, 0] rfl) hR
  have j_49 : (0 : Int32).toInt = 0 := by decide
  exact L3 4000 (0 : Int32) p0_2 Ω s.heap [] (by omega) h_p0 hE hW hS ls (lv_sub hl [1, 2, 3, 4, 5, 0] rfl) hR
set_option maxHeartbeats 4000000 in
set_option maxRecDepth 100000 in
theorem c_X9_openGates (l : Launch) (G : Gm) (A : Nat → Prop) (Ω : Om) (p0 : Nat) (p0_0 : Fn) (p0_1 : Fn) (p0_2 : Fn) (p0_3 : Fn) (p0_4 : Int32) (p0_5 : Fn) (p0_6 : Fn) (p0_7 : Fn) (p0_8 : Int32) (p0_9 : Int32) (p0_10 : Int32) (p0_11 : Int32) (p0_12 : Int32) (p0_13 : Int32) (x1 : Int32) (x2 : Int32) (x3 : Int32) (hM_p0 : ToldInv p0_0) (hm : 0 ≤ x1.toInt ∧ x1.toInt ≤ 135) (h_p0 : inMod G Ω p0 p0_0 p0_1 p0_2 p0_3 p0_4 p0_5 p0_6 p0_7 p0_8 p0_9 p0_10 p0_11 p0_12 p0_13) : Met l yX9_openGates (wz yX9_openGates cX9_openGates 7 none) ({ frames := 2, cells := 0, slots := 0, locals := 51 } : Room) (va_Pc [.ref p0, .int x1, .int x2, .int x3] (oS G A Ω)) (va_Qv (fun (Ω1 : Om) => inMod G Ω1 p0 p0_0 p0_1 ((f_X9_openGates p0_0 p0_2 x1 x2 x3)) p0_3 p0_4 p0_5 p0_6 p0_7 p0_8 p0_9 p0_10 p0_11 p0_12 p0_13 ∧ (∀ q : Nat, (q < p0 ∨ p0 + 8 ≤ q) → Ω1 q = Ω q)) (oB G A) A) 0 0 A := by
  refine Met.ofW (cc := cX9_openGates) (maxL := 7) (ret := none) (by decide) rfl ?_
  intro p e s m args below meth c s₁ B hml hv
  obtain ⟨rfl, hW, hK, hN, hZ⟩ := hv
  have hx := B.exec
  have hb := B.bytes
  have hr := B.returns
  have hts : ∀ w ∈ gt, w.before _ s = true := fun w hw => atoms_spec (ws := wz yX9_openGates cX9_openGates 7 none) B.pre w (List.mem_cons_of_mem _ hw)
  have hown : s.vm.findClass RX9 = some m.cls := findClass_of_methodNamed B.named
  have hlocks := B.notSynchronized
  have hA : ∀ q, A q → A q := fun _ h => h
  have hS : va_S A s.heap s.heap [] := va_S.rf
  have hS0 := hS
  have hl := lv_entry ([.ref p0, .int x1, .int x2, .int x3]) (n := 7) (Nat.le_of_ble_eq_true rfl)
  rw [lg_entry_eq]
  generalize (lg_sl ([.ref p0, .int x1, .int x2, .int x3]) ++ List.replicate (7 - (lg_sl ([.ref p0, .int x1, .int x2, .int x3])).length) Slot.unset).toArray = ls at hl ⊢
  have hl : lv_has ls 7 [(0, .ref p0), (1, .int x1), (2, .int x2), (3, .int x3)] := hl
  have hE : ∀ q : Nat, (q < p0 ∨ p0 + 8 ≤ q) → Ω q = Ω q := by intros; rfl
  generalize hR : (f_X9_openGates p0_0 p0_2 x1 x2 x3) = R
  rw [f_X9_openGates] at hR
  refine lv_iconst (v := (0 : Int32)) hx hb dX9_openGates_0 (by decide) ?_
  refine lv_istore (lv' := [(4, .int (0 : Int32)), (0, .ref p0), (1, .int x1), (2, .int x2), (3, .int x3)]) hx hb dX9_openGates_1 hl (by decide) rfl (fun ls hl => ?_)
  have L3 : ∀ (n_2 : Nat) (x4_1 : Int32) (p0_2_1 : Fn) (Ω_3 : Om) (H : Heap) (locs : List Loc), (0 ≤ x4_1.toInt ∧ x4_1.toInt ≤ 6 ∧ 6 - x4_1.toInt < n_2) → inMod G Ω_3 p0 p0_0 p0_1 p0_2_1 p0_3 p0_4 p0_5 p0_6 p0_7 p0_8 p0_9 p0_10 p0_11 p0_12 p0_13 → (∀ q : Nat, (q < p0 ∨ p0 + 8 ≤ q) → Ω_3 q = Ω q) → oW G A Ω_3 H → va_S A s.heap H locs → ∀ ls : Array Slot, lv_has ls 7 [(0, .ref p0), (1, .int x1), (2, .int x2), (3, .int x3), (4, .int x4_1)] → (f_X9_openGates_L3 p0_0 x1 x2 x3 n_2 x4_1 p0_2_1) = R → W p l e (headSpec (wz yX9_openGates cX9_openGates 7 none) ({ frames := 2, cells := 0, slots := 0, locals := 51 } : Room)).room s m ([.ref p0, .int x1, .int x2, .int x3] : List Value).toArray below meth c H locs 0 0 (MQ below (va_Qv (fun (Ω1 : Om) => inMod G Ω1 p0 p0_0 p0_1 (R) p0_3 p0_4 p0_5 p0_6 p0_7 p0_8 p0_9 p0_10 p0_11 p0_12 p0_13 ∧ (∀ q : Nat, (q < p0 ∨ p0 + 8 ≤ q) → Ω1 q = Ω q)) (oB G A) A) ([.ref p0, .int x1, .int x2, .int x3] : List Value).toArray s 0 0 A) (F0 m 3 ls []) := by
    intro n_2
    induction n_2 with
    | zero =>
      intro x4_1 p0_2_1 Ω_3 H locs v_3_0 h_p0 hE hW hS ls hl hR
      exfalso
      omega
    | succ n_2 ih3 =>
      intro x4_1 p0_2_1 Ω_3 H locs v_3_0 h_p0 hE hW hS ls hl hR
      rw [f_X9_openGates_L3] at hR
      refine lv_iload hx hb dX9_openGates_3 (lv_at hl 4 rfl) ?_
      refine lv_aload_n hx hb dX9_openGates_5 rfl (lv_at hl 0 rfl) ?_
      refine o_ViR (rest := [.int x4_1]) (As := []) (n := 0) hx hb hml hown hts hK hN hZ hW hS hA (c_X9_registers l G A Ω_3 p0 p0_0 p0_1 p0_2_1 p0_3 p0_4 p0_5 p0_6 p0_7 p0_8 p0_9 p0_10 p0_11 p0_12 p0_13 hM_p0 h_p0) (inMod_o h_p0) rfl (good_V ml_X9_43 im_X9_registers se_X9_registers ini_X9 co_X9_registers) (by decide +kernel) ⟨Nat.zero_le _, Nat.zero_le _⟩ hl.1 (Nat.le_of_ble_eq_true rfl) rfl rfl dX9_openGates_6 (fun r H locs hp hW hS => ?_)
      subst hp
      try have j_6 : 0 ≤ (f_X9_registers p0_0).toInt ∧ (f_X9_registers p0_0).toInt ≤ 6 := TI_90 hM_p0
      refine lv_icmp_ge (tgt := 125) hx hb dX9_openGates_9 (by decide) (fun c_5 => ?_) (fun c_5 => ?_)
      · rw [if_pos c_5] at hR
        have i_5 := rle c_5
        subst hR
        exact W.vret hx hb hr (fun t ht hW9 => ⟨⟨Ω_3, rfl, ⟨h_p0, hE⟩, by rw [oB, ht]; exact hW⟩, hS.F ht⟩) hS.2.2 dX9_openGates_125
      · rw [if_neg c_5] at hR
        have i_5 := rnle c_5
        refine lv_aload_n hx hb dX9_openGates_12 rfl (lv_at hl 0 rfl) ?_
        refine o_get hx hb hts hown hK hW (inMod_o h_p0) rfl ig9 0 (by decide) fl_X9_7 rfl dX9_openGates_13 ?_
        refine lv_bipush (v := (12 : Int32)) hx hb dX9_openGates_16 (by decide) ?_
        refine lv_iload hx hb dX9_openGates_18 (lv_at hl 4 rfl) ?_
        refine lv_iadd hx hb dX9_openGates_20 ?_
        have j_7 : (12 : Int32).toInt = 12 := by decide
        try have j_8 : ((12 : Int32) + x4_1).toInt = (12 : Int32).toInt + x4_1.toInt := fb_addI (by omega) (by omega)
        refine o_iald hx hb hK hW (inMod_a0 h_p0) (vp_in_iff.mpr ⟨by omega, by omega⟩) dX9_openGates_21 ?_
        refine lv_istore (lv' := [(5, .int (p0_0 ((12 : Int32) + x4_1).toNatClampNeg)), (0, .ref p0), (1, .int x1), (2, .int x2), (3, .int x3), (4, .int x4_1)]) hx hb dX9_openGates_22 hl (by decide) rfl (fun ls hl => ?_)
        refine lv_aload_n hx hb dX9_openGates_24 rfl (lv_at hl 1 rfl) ?_
        refine o_get hx hb hts hown hK hW (inMod_o h_p0) rfl ig9 2 (by decide) fl_X9_16 rfl dX9_openGates_25 ?_
        refine lv_iload_n hx hb dX9_openGates_28 rfl (lv_at hl 2 rfl) ?_
        refine lv_bipush (v := (24 : Int32)) hx hb dX9_openGates_29 (by decide) ?_
        refine lv_iadd hx hb dX9_openGates_31 ?_
        refine lv_iload hx hb dX9_openGates_32 (lv_at hl 5 rfl) ?_
        refine lv_iadd hx hb dX9_openGates_34 ?_
        have j_9 : (24 : Int32).toInt = 24 := by decide
        try have j_10 : (x1 + (24 : Int32)).toInt = x1.toInt + (24 : Int32).toInt := fb_addI (by omega) (by omega)
        try have j_11 : ((x1 + (24 : Int32)) + x4_1).toInt = (x1 + (24 : Int32)).toInt + x4_1.toInt := fb_addI (by omega) (by omega)
        refine o_iald hx hb hK hW (inMod_a2 h_p0) (vp_in_iff.mpr ⟨by omega, by omega⟩) dX9_openGates_35 ?_
        refine lv_istore (lv' := [(6, .int (p0_2_1 ((x1 + (24 : Int32)) + x4_1).toNatClampNeg)), (5, .int (p0_0 ((12 : Int32) + x4_1).toNatClampNeg)), (0, .ref p0), (1, .int x1), (2, .int x2), (3, .int x3), (4, .int x4_1)]) hx hb dX9_openGates_36 hl (by decide) rfl (fun ls hl => ?_)
        refine lv_iload hx hb dX9_openGates_38 (lv_at hl 1 rfl) ?_
        refine lv_bipush (v := (-9 : Int32)) hx hb dX9_openGates_40 (by decide) ?_
        try have j_13 : (p0_0 ((12 : Int32) + x4_1).toNatClampNeg).toInt = -9 ∨ (0 ≤ (p0_0 ((12 : Int32) + x4_1).toNatClampNeg).toInt ∧ (p0_0 ((12 : Int32) + x4_1).toNatClampNeg).toInt < 12) := TI_12 hM_p0 (by omega) (by omega)
        have j_14 : (-9 : Int32).toInt = -9 := by decide
        refine lv_icmp_eq (tgt := 119) hx hb dX9_openGates_42 (by decide) (fun c_12 => ?_) (fun c_12 => ?_)
        · rw [if_pos c_12] at hR
          have i_12 := congrArg Int32.toInt c_12
          refine lv_iinc (v := (x4_1 + (1 : Int32))) (lv' := [(4, .int (x4_1 + (1 : Int32))), (6, .int (p0_2_1 ((x1 + (24 : Int32)) + x4_1).toNatClampNeg)), (5, .int (p0_0 ((12 : Int32) + x4_1).toNatClampNeg)), (0, .ref p0), (1, .int x1), (2, .int x2), (3, .int x3)]) hx hb dX9_openGates_119 hl (k := 6) rfl rfl (by decide) rfl (fun ls hl => ?_)
          refine lv_goto (tgt := 3) hx hb dX9_openGates_122 (by decide) ?_
          have j_15 : (1 : Int32).toInt = 1 := by decide
          try have j_16 : (x4_1 + (1 : Int32)).toInt = x4_1.toInt + (1 : Int32).toInt := fb_addI (by omega) (by omega)
          exact ih3 (x4_1 + (1 : Int32)) p0_2_1 Ω_3 H locs (by omega) h_p0 hE hW hS ls (lv_sub hl [3, 4, 5, 6, 0] rfl) hR
        · rw [if_neg c_12] at hR
          have i_12 := rne c_12
          refine lv_aload_n hx hb dX9_openGates_45 rfl (lv_at hl 2 rfl) ?_
          refine o_get hx hb hts hown hK hW (inMod_o h_p0) rfl ig9 0 (by decide) fl_X9_7 rfl dX9_openGates_46 ?_
          refine lv_bipush (v := (18 : Int32)) hx hb dX9_openGates_49 (by decide) ?_
          refine lv_iload hx hb dX9_openGates_51 (lv_at hl 1 rfl) ?_
          refine lv_iadd hx hb dX9_openGates_53 ?_
          have j_17 : (18 : Int32).toInt = 18 := by decide
          try have j_18 : ((18 : Int32) + (p0_0 ((12 : Int32) + x4_1).toNatClampNeg)).toInt = (18 : Int32).toInt + (p0_0 ((12 : Int32) + x4_1).toNatClampNeg).toInt := fb_addI (by omega) (by omega)
          refine o_iald hx hb hK hW (inMod_a0 h_p0) (vp_in_iff.mpr ⟨by omega, by omega⟩) dX9_openGates_54 ?_
          refine lv_iload_n hx hb dX9_openGates_55 rfl (lv_at hl 4 rfl) ?_
          try have j_20 : 0 ≤ (p0_0 ((18 : Int32) + (p0_0 ((12 : Int32) + x4_1).toNatClampNeg)).toNatClampNeg).toInt ∧ (p0_0 ((18 : Int32) + (p0_0 ((12 : Int32) + x4_1).toNatClampNeg)).toNatClampNeg).toInt < 6 := TI_18 hM_p0 (by omega) (by omega)
          refine lv_icmp_ne (tgt := 119) hx hb dX9_openGates_56 (by decide) (fun c_19 => ?_) (fun c_19 => ?_)
          · rw [if_neg c_19] at hR
            have i_19 := rne c_19
            refine lv_iinc (v := (x4_1 + (1 : Int32))) (lv' := [(4, .int (x4_1 + (1 : Int32))), (6, .int (p0_2_1 ((x1 + (24 : Int32)) + x4_1).toNatClampNeg)), (5, .int (p0_0 ((12 : Int32) + x4_1).toNatClampNeg)), (0, .ref p0), (1, .int x1), (2, .int x2), (3, .int x3)]) hx hb dX9_openGates_119 hl (k := 6) rfl rfl (by decide) rfl (fun ls hl => ?_)
            refine lv_goto (tgt := 3) hx hb dX9_openGates_122 (by decide) ?_
            have j_21 : (1 : Int32).toInt = 1 := by decide
            try have j_22 : (x4_1 + (1 : Int32)).toInt = x4_1.toInt + (1 : Int32).toInt := fb_addI (by omega) (by omega)
            exact ih3 (x4_1 + (1 : Int32)) p0_2_1 Ω_3 H locs (by omega) h_p0 hE hW hS ls (lv_sub hl [3, 4, 5, 6, 0] rfl) hR
          · rw [if_pos c_19] at hR
            have i_19 := congrArg Int32.toInt c_19
            refine lv_iload hx hb dX9_openGates_59 (lv_at hl 0 rfl) ?_
            refine lv_bipush (v := (-9 : Int32)) hx hb dX9_openGates_61 (by decide) ?_
            refine lv_icmp_eq (tgt := 119) hx hb dX9_openGates_63 (by decide) (fun c_23 => ?_) (fun c_23 => ?_)
            · rw [if_pos c_23] at hR
              have i_23 := congrArg Int32.toInt c_23
              refine lv_iinc (v := (x4_1 + (1 : Int32))) (lv' := [(4, .int (x4_1 + (1 : Int32))), (6, .int (p0_2_1 ((x1 + (24 : Int32)) + x4_1).toNatClampNeg)), (5, .int (p0_0 ((12 : Int32) + x4_1).toNatClampNeg)), (0, .ref p0), (1, .int x1), (2, .int x2), (3, .int x3)]) hx hb dX9_openGates_119 hl (k := 6) rfl rfl (by decide) rfl (fun ls hl => ?_)
              refine lv_goto (tgt := 3) hx hb dX9_openGates_122 (by decide) ?_
              have j_24 : (1 : Int32).toInt = 1 := by decide
              try have j_25 : (x4_1 + (1 : Int32)).toInt = x4_1.toInt + (1 : Int32).toInt := fb_addI (by omega) (by omega)
              exact ih3 (x4_1 + (1 : Int32)) p0_2_1 Ω_3 H locs (by omega) h_p0 hE hW hS ls (lv_sub hl [3, 4, 5, 6, 0] rfl) hR
            · rw [if_neg c_23] at hR
              have i_23 := rne c_23
              refine lv_iload_n hx hb dX9_openGates_66 rfl (lv_at hl 5 rfl) ?_
              refine lv_aload_n hx hb dX9_openGates_67 rfl (lv_at hl 2 rfl) ?_
              refine o_get hx hb hts hown hK hW (inMod_o h_p0) rfl ig9 0 (by decide) fl_X9_7 rfl dX9_openGates_68 ?_
              refine lv_bipush (v := (30 : Int32)) hx hb dX9_openGates_71 (by decide) ?_
              refine lv_iload hx hb dX9_openGates_73 (lv_at hl 1 rfl) ?_
              refine lv_iadd hx hb dX9_openGates_75 ?_
              have j_26 : (30 : Int32).toInt = 30 := by decide
              try have j_27 : ((30 : Int32) + (p0_0 ((12 : Int32) + x4_1).toNatClampNeg)).toInt = (30 : Int32).toInt + (p0_0 ((12 : Int32) + x4_1).toNatClampNeg).toInt := fb_addI (by omega) (by omega)
              refine o_iald hx hb hK hW (inMod_a0 h_p0) (vp_in_iff.mpr ⟨by omega, by omega⟩) dX9_openGates_76 ?_
              refine lv_ishr hx hb dX9_openGates_77 ?_
              refine lv_iconst (v := (1 : Int32)) hx hb dX9_openGates_78 (by decide) ?_
              refine lv_iand hx hb dX9_openGates_79 ?_
              refine lv_iconst (v := (1 : Int32)) hx hb dX9_openGates_80 (by decide) ?_
              have j_29 : (1 : Int32).toInt = 1 := by decide
              refine lv_icmp_ne (tgt := 119) hx hb dX9_openGates_81 (by decide) (fun c_28 => ?_) (fun c_28 => ?_)
              · rw [if_neg c_28] at hR
                have i_28 := rne c_28
                refine lv_iinc (v := (x4_1 + (1 : Int32))) (lv' := [(4, .int (x4_1 + (1 : Int32))), (6, .int (p0_2_1 ((x1 + (24 : Int32)) + x4_1).toNatClampNeg)), (5, .int (p0_0 ((12 : Int32) + x4_1).toNatClampNeg)), (0, .ref p0), (1, .int x1), (2, .int x2), (3, .int x3)]) hx hb dX9_openGates_119 hl (k := 6) rfl rfl (by decide) rfl (fun ls hl => ?_)
                refine lv_goto (tgt := 3) hx hb dX9_openGates_122 (by decide) ?_
                try have j_30 : (x4_1 + (1 : Int32)).toInt = x4_1.toInt + (1 : Int32).toInt := fb_addI (by omega) (by omega)
                exact ih3 (x4_1 + (1 : Int32)) p0_2_1 Ω_3 H locs (by omega) h_p0 hE hW hS ls (lv_sub hl [3, 4, 5, 6, 0] rfl) hR
              · rw [if_pos c_28] at hR
                have i_28 := congrArg Int32.toInt c_28
                refine lv_aload_n hx hb dX9_openGates_84 rfl (lv_at hl 2 rfl) ?_
                refine lv_iload_n hx hb dX9_openGates_85 rfl (lv_at hl 3 rfl) ?_
                refine lv_iload hx hb dX9_openGates_86 (lv_at hl 6 rfl) ?_
                refine o_ViR (rest := []) (As := [.int x1, .int x4_1]) (n := 2) hx hb hml hown hts hK hN hZ hW hS hA (c_X9_isLocked l G A Ω_3 p0 p0_0 p0_1 p0_2_1 p0_3 p0_4 p0_5 p0_6 p0_7 p0_8 p0_9 p0_10 p0_11 p0_12 p0_13 x1 x4_1 hM_p0 (by omega) (by omega) h_p0) (inMod_o h_p0) rfl (good_V ml_X9_85 im_X9_isLocked se_X9_isLocked ini_X9 co_X9_isLocked) (by decide +kernel) ⟨Nat.zero_le _, Nat.zero_le _⟩ hl.1 (Nat.le_of_ble_eq_true rfl) rfl rfl dX9_openGates_88 (fun r H locs hp hW hS => ?_)
                obtain ⟨rfl, hz_31⟩ := hp
                have J105 : ∀ (p0_2_32 : Fn) (Ω_33 : Om) (H : Heap) (locs : List Loc), inMod G Ω_33 p0 p0_0 p0_1 p0_2_32 p0_3 p0_4 p0_5 p0_6 p0_7 p0_8 p0_9 p0_10 p0_11 p0_12 p0_13 → (∀ q : Nat, (q < p0 ∨ p0 + 8 ≤ q) → Ω_33 q = Ω q) → oW G A Ω_33 H → va_S A s.heap H locs → ∀ ls : Array Slot, lv_has ls 7 [(0, .ref p0), (1, .int x1), (2, .int x2), (3, .int x3), (4, .int x4_1)] → (f_X9_openGates_J105 x1 x4_1 (f_X9_openGates_L3 p0_0 x1 x2 x3 n_2) p0_2_32) = R → W p l e (headSpec (wz yX9_openGates cX9_openGates 7 none) ({ frames := 2, cells := 0, slots := 0, locals := 51 } : Room)).room s m ([.ref p0, .int x1, .int x2, .int x3] : List Value).toArray below meth c H locs 0 0 (MQ below (va_Qv (fun (Ω1 : Om) => inMod G Ω1 p0 p0_0 p0_1 (R) p0_3 p0_4 p0_5 p0_6 p0_7 p0_8 p0_9 p0_10 p0_11 p0_12 p0_13 ∧ (∀ q : Nat, (q < p0 ∨ p0 + 8 ≤ q) → Ω1 q = Ω q)) (oB G A) A) ([.ref p0, .int x1, .int x2, .int x3] : List Value).toArray s 0 0 A) (F0 m 105 ls []) := by
                  intro p0_2_32 Ω_33 H locs h_p0 hE hW hS ls hl hR
                  rw [f_X9_openGates_J105] at hR
                  refine lv_aload_n hx hb dX9_openGates_105 rfl (lv_at hl 0 rfl) ?_
                  refine o_get hx hb hts hown hK hW (inMod_o h_p0) rfl ig9 2 (by decide) fl_X9_16 rfl dX9_openGates_106 ?_
                  refine lv_iload_n hx hb dX9_openGates_109 rfl (lv_at hl 1 rfl) ?_
                  refine lv_bipush (v := (24 : Int32)) hx hb dX9_openGates_110 (by decide) ?_
                  refine lv_iadd hx hb dX9_openGates_112 ?_
                  refine lv_iload hx hb dX9_openGates_113 (lv_at hl 4 rfl) ?_
                  refine lv_iadd hx hb dX9_openGates_115 ?_
                  refine lv_bipush (v := (-9 : Int32)) hx hb dX9_openGates_116 (by decide) ?_
                  refine wMod_2 hx hb hK hW hS hA h_p0 (vp_in_iff.mpr ⟨by omega, by omega⟩) dX9_openGates_118 (fun Ω_34 H locs h_p0 hF_34 hW hS => ?_)
                  have hE : ∀ q : Nat, (q < p0 ∨ p0 + 8 ≤ q) → Ω_34 q = Ω q := fun q g0 => (hF_34 q (by omega)).trans (hE q g0)
                  refine lv_iinc (v := (x4_1 + (1 : Int32))) (lv' := [(4, .int (x4_1 + (1 : Int32))), (0, .ref p0), (1, .int x1), (2, .int x2), (3, .int x3)]) hx hb dX9_openGates_119 hl (k := 4) rfl rfl (by decide) rfl (fun ls hl => ?_)
                  refine lv_goto (tgt := 3) hx hb dX9_openGates_122 (by decide) ?_
                  try have j_35 : (x4_1 + (1 : Int32)).toInt = x4_1.toInt + (1 : Int32).toInt := fb_addI (by omega) (by omega)
                  exact ih3 (x4_1 + (1 : Int32)) (upd p0_2_32 ((x1 + (24 : Int32)) + x4_1).toNatClampNeg (-9 : Int32)) Ω_34 H locs (by omega) h_p0 hE hW hS ls (lv_sub hl [1, 2, 3, 4, 0] rfl) hR
                have j_37 : (0 : Int32).toInt = 0 := by decide
                refine lv_if_ne (tgt := 105) hx hb dX9_openGates_91 (by decide) (fun c_36 => ?_) (fun c_36 => ?_)
                · rw [if_neg c_36] at hR
                  have i_36 := rne c_36
                  exact J105 p0_2_1 Ω_3 H locs h_p0 hE hW hS ls (lv_sub hl [2, 3, 4, 5, 6] rfl) hR
                · rw [if_pos c_36] at hR
                  have i_36 := congrArg Int32.toInt c_36
                  refine lv_aload_n hx hb dX9_openGates_94 rfl (lv_at hl 2 rfl) ?_
                  refine lv_iload_n hx hb dX9_openGates_95 rfl (lv_at hl 3 rfl) ?_
                  refine lv_iload hx hb dX9_openGates_96 (lv_at hl 6 rfl) ?_
                  refine lv_iload hx hb dX9_openGates_98 (lv_at hl 0 rfl) ?_
                  refine lv_bipush (v := (-9 : Int32)) hx hb dX9_openGates_100 (by decide) ?_
                  refine o_Vv (rest := []) (As := [.int x1, .int x4_1, .int (p0_2_1 ((x1 + (24 : Int32)) + x4_1).toNatClampNeg), .int (-9 : Int32)]) (n := 4) hx hb hml hown hts hK hN hZ hW hS hA (c_X9_letIn l G A Ω_3 p0 p0_0 p0_1 p0_2_1 p0_3 p0_4 p0_5 p0_6 p0_7 p0_8 p0_9 p0_10 p0_11 p0_12 p0_13 x1 x4_1 (p0_2_1 ((x1 + (24 : Int32)) + x4_1).toNatClampNeg) (-9 : Int32) hM_p0 (by omega) (by omega) h_p0) (inMod_o h_p0) rfl (good_V ml_X9_89 im_X9_letIn se_X9_letIn ini_X9 co_X9_letIn) (by decide +kernel) ⟨Nat.zero_le _, Nat.zero_le _⟩ hl.1 (Nat.le_of_ble_eq_true rfl) rfl rfl dX9_openGates_102 (fun Ω_38 H locs hp hW hS => ?_)
                  obtain ⟨h_p0, hF_38⟩ := hp
                  have hE : ∀ q : Nat, (q < p0 ∨ p0 + 8 ≤ q) → Ω_38 q = Ω q := fun q g0 => (hF_38 q (by omega)).trans (hE q g0)
                  exact J105 (f_X9_letIn p0_0 p0_2_1 x1 x4_1 (p0_2_1 ((x1 + (24 : Int32)) + x4_1).toNatClampNeg) (-9 : Int32)) Ω_38 H locs h_p0 hE hW hS ls (lv_sub hl [2, 3, 4, 5, 6] rfl) hR
  have j_39 : (0 : Int32).toInt = 0 := by decide
  exact L3 4000 (0 : Int32) p0_2 Ω s.heap [] (by omega) h_p0 hE hW hS ls (lv_sub hl [1, 2, 3, 4, 0] rfl) hR
set_option maxHeartbeats 4000000 in
set_option maxRecDepth 100000 in
theorem c_X9_writeTo (l : Launch) (G : Gm) (A : Nat → Prop) (Ω : Om) (p0 : Nat) (p0_0 : Fn) (p0_1 : Fn) (p0_2 : Fn) (p0_3 : Fn) (p0_4 : Int32) (p0_5 : Fn) (p0_6 : Fn) (p0_7 : Fn) (p0_8 : Int32) (p0_9 : Int32) (p0_10 : Int32) (p0_11 : Int32) (p0_12 : Int32) (p0_13 : Int32) (x1 : Int32) (x2 : Int32) (x3 : Int32) (hM_p0 : ToldInv p0_0) (hm : 0 ≤ x1.toInt ∧ x1.toInt ≤ 135) (h_p0 : inMod G Ω p0 p0_0 p0_1 p0_2 p0_3 p0_4 p0_5 p0_6 p0_7 p0_8 p0_9 p0_10 p0_11 p0_12 p0_13) : Met l yX9_writeTo (wz yX9_writeTo cX9_writeTo 6 none) ({ frames := 3, cells := 0, slots := 0, locals := 77 } : Room) (va_Pc [.ref p0, .int x1, .int x2, .int x3] (oS G A Ω)) (va_Qv (fun (Ω1 : Om) => inMod G Ω1 p0 p0_0 p0_1 ((f_X9_writeTo p0_0 p0_2 x1 x2 x3)) p0_3 p0_4 p0_5 p0_6 p0_7 p0_8 p0_9 p0_10 p0_11 p0_12 p0_13 ∧ (∀ q : Nat, (q < p0 ∨ p0 + 8 ≤ q) → Ω1 q = Ω q)) (oB G A) A) 0 0 A := by
  refine Met.ofW (cc := cX9_writeTo) (maxL := 6) (ret := none) (by decide) rfl ?_
  intro p e s m args below meth c s₁ B hml hv
  obtain ⟨rfl, hW, hK, hN, hZ⟩ := hv
  have hx := B.exec
  have hb := B.bytes
  have hr := B.returns
  have hts : ∀ w ∈ gt, w.before _ s = true := fun w hw => atoms_spec (ws := wz yX9_writeTo cX9_writeTo 6 none) B.pre w (List.mem_cons_of_mem _ hw)
  have hown : s.vm.findClass RX9 = some m.cls := findClass_of_methodNamed B.named
  have hlocks := B.notSynchronized
  have hA : ∀ q, A q → A q := fun _ h => h
  have hS : va_S A s.heap s.heap [] := va_S.rf
  have hS0 := hS
  have hl := lv_entry ([.ref p0, .int x1, .int x2, .int x3]) (n := 6) (Nat.le_of_ble_eq_true rfl)
  rw [lg_entry_eq]
  generalize (lg_sl ([.ref p0, .int x1, .int x2, .int x3]) ++ List.replicate (6 - (lg_sl ([.ref p0, .int x1, .int x2, .int x3])).length) Slot.unset).toArray = ls at hl ⊢
  have hl : lv_has ls 6 [(0, .ref p0), (1, .int x1), (2, .int x2), (3, .int x3)] := hl
  have hE : ∀ q : Nat, (q < p0 ∨ p0 + 8 ≤ q) → Ω q = Ω q := by intros; rfl
  generalize hR : (f_X9_writeTo p0_0 p0_2 x1 x2 x3) = R
  rw [f_X9_writeTo] at hR
  refine lv_aload_n hx hb dX9_writeTo_0 rfl (lv_at hl 0 rfl) ?_
  refine lv_iload_n hx hb dX9_writeTo_1 rfl (lv_at hl 2 rfl) ?_
  refine o_ViR (rest := []) (As := [.int x2]) (n := 1) hx hb hml hown hts hK hN hZ hW hS hA (c_X9_goesTo l G A Ω p0 p0_0 p0_1 p0_2 p0_3 p0_4 p0_5 p0_6 p0_7 p0_8 p0_9 p0_10 p0_11 p0_12 p0_13 x2 hM_p0 h_p0) (inMod_o h_p0) rfl (good_V ml_X9_64 im_X9_goesTo se_X9_goesTo ini_X9 co_X9_goesTo) (by decide +kernel) ⟨Nat.zero_le _, Nat.zero_le _⟩ hl.1 (Nat.le_of_ble_eq_true rfl) rfl rfl dX9_writeTo_2 (fun r H locs hp hW hS => ?_)
  subst hp
  refine lv_istore (lv' := [(4, .int (f_X9_goesTo p0_0 x2)), (0, .ref p0), (1, .int x1), (2, .int x2), (3, .int x3)]) hx hb dX9_writeTo_5 hl (by decide) rfl (fun ls hl => ?_)
  refine lv_iload hx hb dX9_writeTo_7 (lv_at hl 0 rfl) ?_
  refine lv_bipush (v := (-9 : Int32)) hx hb dX9_writeTo_9 (by decide) ?_
  try have j_3 : (f_X9_goesTo p0_0 x2).toInt = -9 ∨ (0 ≤ (f_X9_goesTo p0_0 x2).toInt ∧ (f_X9_goesTo p0_0 x2).toInt < 6) ∨ (100 ≤ (f_X9_goesTo p0_0 x2).toInt ∧ (f_X9_goesTo p0_0 x2).toInt < 104) := R_goesTo hM_p0 _
  have j_4 : (-9 : Int32).toInt = -9 := by decide
  refine lv_icmp_eq (tgt := 28) hx hb dX9_writeTo_11 (by decide) (fun c_2 => ?_) (fun c_2 => ?_)
  · rw [if_pos c_2] at hR
    have i_2 := congrArg Int32.toInt c_2
    subst hR
    exact W.vret hx hb hr (fun t ht hW9 => ⟨⟨Ω, rfl, ⟨h_p0, hE⟩, by rw [oB, ht]; exact hW⟩, hS.F ht⟩) hS.2.2 dX9_writeTo_28
  · rw [if_neg c_2] at hR
    have i_2 := rne c_2
    refine lv_aload_n hx hb dX9_writeTo_14 rfl (lv_at hl 1 rfl) ?_
    refine lv_iload_n hx hb dX9_writeTo_15 rfl (lv_at hl 2 rfl) ?_
    refine lv_aload_n hx hb dX9_writeTo_16 rfl (lv_at hl 1 rfl) ?_
    refine lv_iload hx hb dX9_writeTo_17 (lv_at hl 0 rfl) ?_
    refine o_ViR (rest := [.int x1, .ref p0]) (As := [.int (f_X9_goesTo p0_0 x2)]) (n := 1) hx hb hml hown hts hK hN hZ hW hS hA (c_X9_registerOf l G A Ω p0 p0_0 p0_1 p0_2 p0_3 p0_4 p0_5 p0_6 p0_7 p0_8 p0_9 p0_10 p0_11 p0_12 p0_13 (f_X9_goesTo p0_0 x2) hM_p0 (by omega) h_p0) (inMod_o h_p0) rfl (good_V ml_X9_67 im_X9_registerOf se_X9_registerOf ini_X9 co_X9_registerOf) (by decide +kernel) ⟨Nat.zero_le _, Nat.zero_le _⟩ hl.1 (Nat.le_of_ble_eq_true rfl) rfl rfl dX9_writeTo_19 (fun r H locs hp hW hS => ?_)
    subst hp
    try have j_6 : 0 ≤ (f_X9_registerOf p0_0 (f_X9_goesTo p0_0 x2)).toInt ∧ (f_X9_registerOf p0_0 (f_X9_goesTo p0_0 x2)).toInt < 6 := R_registerOf hM_p0 (by omega)
    refine o_ViR (rest := []) (As := [.int x1, .int (f_X9_registerOf p0_0 (f_X9_goesTo p0_0 x2))]) (n := 2) hx hb hml hown hts hK hN hZ hW hS hA (c_X9_isLocked l G A Ω p0 p0_0 p0_1 p0_2 p0_3 p0_4 p0_5 p0_6 p0_7 p0_8 p0_9 p0_10 p0_11 p0_12 p0_13 x1 (f_X9_registerOf p0_0 (f_X9_goesTo p0_0 x2)) hM_p0 (by omega) (by omega) h_p0) (inMod_o h_p0) rfl (good_V ml_X9_85 im_X9_isLocked se_X9_isLocked ini_X9 co_X9_isLocked) (by decide +kernel) ⟨Nat.zero_le _, Nat.zero_le _⟩ hl.1 (Nat.le_of_ble_eq_true rfl) rfl rfl dX9_writeTo_22 (fun r H locs hp hW hS => ?_)
    obtain ⟨rfl, hz_7⟩ := hp
    have j_9 : (0 : Int32).toInt = 0 := by decide
    refine lv_if_eq (tgt := 29) hx hb dX9_writeTo_25 (by decide) (fun c_8 => ?_) (fun c_8 => ?_)
    · rw [if_pos c_8] at hR
      have i_8 := congrArg Int32.toInt c_8
      refine lv_aload_n hx hb dX9_writeTo_29 rfl (lv_at hl 1 rfl) ?_
      refine lv_iload hx hb dX9_writeTo_30 (lv_at hl 0 rfl) ?_
      refine o_ViR (rest := []) (As := [.int (f_X9_goesTo p0_0 x2)]) (n := 1) hx hb hml hown hts hK hN hZ hW hS hA (c_X9_registerOf l G A Ω p0 p0_0 p0_1 p0_2 p0_3 p0_4 p0_5 p0_6 p0_7 p0_8 p0_9 p0_10 p0_11 p0_12 p0_13 (f_X9_goesTo p0_0 x2) hM_p0 (by omega) h_p0) (inMod_o h_p0) rfl (good_V ml_X9_67 im_X9_registerOf se_X9_registerOf ini_X9 co_X9_registerOf) (by decide +kernel) ⟨Nat.zero_le _, Nat.zero_le _⟩ hl.1 (Nat.le_of_ble_eq_true rfl) rfl rfl dX9_writeTo_32 (fun r H locs hp hW hS => ?_)
      subst hp
      refine lv_istore (lv' := [(5, .int (f_X9_registerOf p0_0 (f_X9_goesTo p0_0 x2))), (4, .int (f_X9_goesTo p0_0 x2)), (0, .ref p0), (1, .int x1), (2, .int x2), (3, .int x3)]) hx hb dX9_writeTo_35 hl (by decide) rfl (fun ls hl => ?_)
      refine lv_iload hx hb dX9_writeTo_37 (lv_at hl 1 rfl) ?_
      refine lv_bipush (v := (100 : Int32)) hx hb dX9_writeTo_39 (by decide) ?_
      have J73 : ∀ (H : Heap) (locs : List Loc), oW G A Ω H → va_S A s.heap H locs → ∀ ls : Array Slot, lv_has ls 6 [(0, .ref p0), (1, .int x1), (3, .int x3), (4, .int (f_X9_goesTo p0_0 x2)), (5, .int (f_X9_registerOf p0_0 (f_X9_goesTo p0_0 x2)))] → (f_X9_writeTo_J73 p0_0 p0_2 x1 x3 (f_X9_goesTo p0_0 x2) (f_X9_registerOf p0_0 (f_X9_goesTo p0_0 x2))) = R → W p l e (headSpec (wz yX9_writeTo cX9_writeTo 6 none) ({ frames := 3, cells := 0, slots := 0, locals := 77 } : Room)).room s m ([.ref p0, .int x1, .int x2, .int x3] : List Value).toArray below meth c H locs 0 0 (MQ below (va_Qv (fun (Ω1 : Om) => inMod G Ω1 p0 p0_0 p0_1 (R) p0_3 p0_4 p0_5 p0_6 p0_7 p0_8 p0_9 p0_10 p0_11 p0_12 p0_13 ∧ (∀ q : Nat, (q < p0 ∨ p0 + 8 ≤ q) → Ω1 q = Ω q)) (oB G A) A) ([.ref p0, .int x1, .int x2, .int x3] : List Value).toArray s 0 0 A) (F0 m 73 ls []) := by
        intro H locs hW hS ls hl hR
        rw [f_X9_writeTo_J73] at hR
        refine lv_aload_n hx hb dX9_writeTo_73 rfl (lv_at hl 0 rfl) ?_
        refine lv_iload_n hx hb dX9_writeTo_74 rfl (lv_at hl 1 rfl) ?_
        refine lv_iload hx hb dX9_writeTo_75 (lv_at hl 4 rfl) ?_
        refine lv_iload_n hx hb dX9_writeTo_77 rfl (lv_at hl 2 rfl) ?_
        refine lv_iload hx hb dX9_writeTo_78 (lv_at hl 3 rfl) ?_
        refine lv_bipush (v := (100 : Int32)) hx hb dX9_writeTo_80 (by decide) ?_
        have J103 : ∀ (s4_12 : Int32) (H : Heap) (locs : List Loc), oW G A Ω H → va_S A s.heap H locs → ∀ ls : Array Slot, lv_has ls 6 [(0, .ref p0), (1, .int x1), (3, .int x3), (5, .int (f_X9_registerOf p0_0 (f_X9_goesTo p0_0 x2)))] → (f_X9_writeTo_J103 p0_0 p0_2 x1 (f_X9_registerOf p0_0 (f_X9_goesTo p0_0 x2)) x3 x1 x3 (f_X9_registerOf p0_0 (f_X9_goesTo p0_0 x2)) s4_12) = R → W p l e (headSpec (wz yX9_writeTo cX9_writeTo 6 none) ({ frames := 3, cells := 0, slots := 0, locals := 77 } : Room)).room s m ([.ref p0, .int x1, .int x2, .int x3] : List Value).toArray below meth c H locs 0 0 (MQ below (va_Qv (fun (Ω1 : Om) => inMod G Ω1 p0 p0_0 p0_1 (R) p0_3 p0_4 p0_5 p0_6 p0_7 p0_8 p0_9 p0_10 p0_11 p0_12 p0_13 ∧ (∀ q : Nat, (q < p0 ∨ p0 + 8 ≤ q) → Ω1 q = Ω q)) (oB G A) A) ([.ref p0, .int x1, .int x2, .int x3] : List Value).toArray s 0 0 A) (F0 m 103 ls [.int s4_12, .int x3, .int (f_X9_registerOf p0_0 (f_X9_goesTo p0_0 x2)), .int x1, .ref p0]) := by
          intro s4_12 H locs hW hS ls hl hR
          rw [f_X9_writeTo_J103] at hR
          refine o_Vv (rest := []) (As := [.int x1, .int (f_X9_registerOf p0_0 (f_X9_goesTo p0_0 x2)), .int x3, .int s4_12]) (n := 4) hx hb hml hown hts hK hN hZ hW hS hA (c_X9_letIn l G A Ω p0 p0_0 p0_1 p0_2 p0_3 p0_4 p0_5 p0_6 p0_7 p0_8 p0_9 p0_10 p0_11 p0_12 p0_13 x1 (f_X9_registerOf p0_0 (f_X9_goesTo p0_0 x2)) x3 s4_12 hM_p0 (by omega) (by omega) h_p0) (inMod_o h_p0) rfl (good_V ml_X9_89 im_X9_letIn se_X9_letIn ini_X9 co_X9_letIn) (by decide +kernel) ⟨Nat.zero_le _, Nat.zero_le _⟩ hl.1 (Nat.le_of_ble_eq_true rfl) rfl rfl dX9_writeTo_103 (fun Ω_13 H locs hp hW hS => ?_)
          obtain ⟨h_p0, hF_13⟩ := hp
          have hE : ∀ q : Nat, (q < p0 ∨ p0 + 8 ≤ q) → Ω_13 q = Ω q := fun q g0 => (hF_13 q (by omega)).trans (hE q g0)
          refine lv_aload_n hx hb dX9_writeTo_106 rfl (lv_at hl 0 rfl) ?_
          refine lv_iload_n hx hb dX9_writeTo_107 rfl (lv_at hl 1 rfl) ?_
          refine lv_iload hx hb dX9_writeTo_108 (lv_at hl 3 rfl) ?_
          refine lv_iload_n hx hb dX9_writeTo_110 rfl (lv_at hl 2 rfl) ?_
          refine o_Vv (rest := []) (As := [.int x1, .int (f_X9_registerOf p0_0 (f_X9_goesTo p0_0 x2)), .int x3]) (n := 3) hx hb hml hown hts hK hN hZ hW hS hA (c_X9_openGates l G A Ω_13 p0 p0_0 p0_1 (f_X9_letIn p0_0 p0_2 x1 (f_X9_registerOf p0_0 (f_X9_goesTo p0_0 x2)) x3 s4_12) p0_3 p0_4 p0_5 p0_6 p0_7 p0_8 p0_9 p0_10 p0_11 p0_12 p0_13 x1 (f_X9_registerOf p0_0 (f_X9_goesTo p0_0 x2)) x3 hM_p0 (by omega) h_p0) (inMod_o h_p0) rfl (good_V ml_X9_93 im_X9_openGates se_X9_openGates ini_X9 co_X9_openGates) (by decide +kernel) ⟨Nat.zero_le _, Nat.zero_le _⟩ hl.1 (Nat.le_of_ble_eq_true rfl) rfl rfl dX9_writeTo_111 (fun Ω_14 H locs hp hW hS => ?_)
          obtain ⟨h_p0, hF_14⟩ := hp
          have hE : ∀ q : Nat, (q < p0 ∨ p0 + 8 ≤ q) → Ω_14 q = Ω q := fun q g0 => (hF_14 q (by omega)).trans (hE q g0)
          subst hR
          exact W.vret hx hb hr (fun t ht hW9 => ⟨⟨Ω_14, rfl, ⟨h_p0, hE⟩, by rw [oB, ht]; exact hW⟩, hS.F ht⟩) hS.2.2 dX9_writeTo_114
        have j_16 : (100 : Int32).toInt = 100 := by decide
        refine lv_icmp_ge (tgt := 90) hx hb dX9_writeTo_82 (by decide) (fun c_15 => ?_) (fun c_15 => ?_)
        · rw [if_pos c_15] at hR
          have i_15 := rle c_15
          refine lv_aload_n hx hb dX9_writeTo_90 rfl (lv_at hl 0 rfl) ?_
          refine o_get hx hb hts hown hK hW (inMod_o h_p0) rfl ig9 0 (by decide) fl_X9_7 rfl dX9_writeTo_91 ?_
          refine lv_bipush (v := (86 : Int32)) hx hb dX9_writeTo_94 (by decide) ?_
          refine lv_iload hx hb dX9_writeTo_96 (lv_at hl 3 rfl) ?_
          refine lv_iadd hx hb dX9_writeTo_98 ?_
          refine lv_bipush (v := (100 : Int32)) hx hb dX9_writeTo_99 (by decide) ?_
          refine lv_isub hx hb dX9_writeTo_101 ?_
          have j_17 : (86 : Int32).toInt = 86 := by decide
          try have j_18 : ((86 : Int32) + (f_X9_goesTo p0_0 x2)).toInt = (86 : Int32).toInt + (f_X9_goesTo p0_0 x2).toInt := fb_addI (by omega) (by omega)
          try have j_19 : (((86 : Int32) + (f_X9_goesTo p0_0 x2)) - (100 : Int32)).toInt = ((86 : Int32) + (f_X9_goesTo p0_0 x2)).toInt - (100 : Int32).toInt := fb_subI (by omega) (by omega)
          refine o_iald hx hb hK hW (inMod_a0 h_p0) (vp_in_iff.mpr ⟨by omega, by omega⟩) dX9_writeTo_102 ?_
          exact J103 (p0_0 (((86 : Int32) + (f_X9_goesTo p0_0 x2)) - (100 : Int32)).toNatClampNeg) H locs hW hS ls (lv_sub hl [0, 1, 2, 4] rfl) hR
        · rw [if_neg c_15] at hR
          have i_15 := rnle c_15
          refine lv_bipush (v := (-9 : Int32)) hx hb dX9_writeTo_85 (by decide) ?_
          refine lv_goto (tgt := 103) hx hb dX9_writeTo_87 (by decide) ?_
          exact J103 (-9 : Int32) H locs hW hS ls (lv_sub hl [0, 1, 2, 4] rfl) hR
      have j_21 : (100 : Int32).toInt = 100 := by decide
      refine lv_icmp_ge (tgt := 73) hx hb dX9_writeTo_41 (by decide) (fun c_20 => ?_) (fun c_20 => ?_)
      · rw [if_pos c_20] at hR
        have i_20 := rle c_20
        exact J73 H locs hW hS ls (lv_sub hl [2, 3, 5, 1, 0] rfl) hR
      · rw [if_neg c_20] at hR
        have i_20 := rnle c_20
        refine lv_aload_n hx hb dX9_writeTo_44 rfl (lv_at hl 2 rfl) ?_
        refine o_get hx hb hts hown hK hW (inMod_o h_p0) rfl ig9 0 (by decide) fl_X9_7 rfl dX9_writeTo_45 ?_
        refine lv_bipush (v := (12 : Int32)) hx hb dX9_writeTo_48 (by decide) ?_
        refine lv_iload hx hb dX9_writeTo_50 (lv_at hl 0 rfl) ?_
        refine lv_iadd hx hb dX9_writeTo_52 ?_
        have j_22 : (12 : Int32).toInt = 12 := by decide
        try have j_23 : ((12 : Int32) + (f_X9_registerOf p0_0 (f_X9_goesTo p0_0 x2))).toInt = (12 : Int32).toInt + (f_X9_registerOf p0_0 (f_X9_goesTo p0_0 x2)).toInt := fb_addI (by omega) (by omega)
        refine o_iald hx hb hK hW (inMod_a0 h_p0) (vp_in_iff.mpr ⟨by omega, by omega⟩) dX9_writeTo_53 ?_
        refine lv_bipush (v := (-9 : Int32)) hx hb dX9_writeTo_54 (by decide) ?_
        try have j_25 : (p0_0 ((12 : Int32) + (f_X9_registerOf p0_0 (f_X9_goesTo p0_0 x2))).toNatClampNeg).toInt = -9 ∨ (0 ≤ (p0_0 ((12 : Int32) + (f_X9_registerOf p0_0 (f_X9_goesTo p0_0 x2))).toNatClampNeg).toInt ∧ (p0_0 ((12 : Int32) + (f_X9_registerOf p0_0 (f_X9_goesTo p0_0 x2))).toNatClampNeg).toInt < 12) := TI_12 hM_p0 (by omega) (by omega)
        refine lv_icmp_eq (tgt := 73) hx hb dX9_writeTo_56 (by decide) (fun c_24 => ?_) (fun c_24 => ?_)
        · rw [if_pos c_24] at hR
          have i_24 := congrArg Int32.toInt c_24
          exact J73 H locs hW hS ls (lv_sub hl [2, 3, 5, 1, 0] rfl) hR
        · rw [if_neg c_24] at hR
          have i_24 := rne c_24
          refine lv_aload_n hx hb dX9_writeTo_59 rfl (lv_at hl 2 rfl) ?_
          refine o_get hx hb hts hown hK hW (inMod_o h_p0) rfl ig9 2 (by decide) fl_X9_16 rfl dX9_writeTo_60 ?_
          refine lv_iload_n hx hb dX9_writeTo_63 rfl (lv_at hl 3 rfl) ?_
          refine lv_bipush (v := (24 : Int32)) hx hb dX9_writeTo_64 (by decide) ?_
          refine lv_iadd hx hb dX9_writeTo_66 ?_
          refine lv_iload hx hb dX9_writeTo_67 (lv_at hl 0 rfl) ?_
          refine lv_iadd hx hb dX9_writeTo_69 ?_
          refine lv_iload_n hx hb dX9_writeTo_70 rfl (lv_at hl 5 rfl) ?_
          have j_26 : (24 : Int32).toInt = 24 := by decide
          try have j_27 : (x1 + (24 : Int32)).toInt = x1.toInt + (24 : Int32).toInt := fb_addI (by omega) (by omega)
          try have j_28 : ((x1 + (24 : Int32)) + (f_X9_registerOf p0_0 (f_X9_goesTo p0_0 x2))).toInt = (x1 + (24 : Int32)).toInt + (f_X9_registerOf p0_0 (f_X9_goesTo p0_0 x2)).toInt := fb_addI (by omega) (by omega)
          refine wMod_2 hx hb hK hW hS hA h_p0 (vp_in_iff.mpr ⟨by omega, by omega⟩) dX9_writeTo_71 (fun Ω_29 H locs h_p0 hF_29 hW hS => ?_)
          have hE : ∀ q : Nat, (q < p0 ∨ p0 + 8 ≤ q) → Ω_29 q = Ω q := fun q g0 => (hF_29 q (by omega)).trans (hE q g0)
          subst hR
          exact W.vret hx hb hr (fun t ht hW9 => ⟨⟨Ω_29, rfl, ⟨h_p0, hE⟩, by rw [oB, ht]; exact hW⟩, hS.F ht⟩) hS.2.2 dX9_writeTo_72
    · rw [if_neg c_8] at hR
      have i_8 := rne c_8
      subst hR
      exact W.vret hx hb hr (fun t ht hW9 => ⟨⟨Ω, rfl, ⟨h_p0, hE⟩, by rw [oB, ht]; exact hW⟩, hS.F ht⟩) hS.2.2 dX9_writeTo_28
set_option maxHeartbeats 4000000 in
set_option maxRecDepth 100000 in
theorem c_X9_copyMachine (l : Launch) (G : Gm) (A : Nat → Prop) (Ω : Om) (p0 : Nat) (p0_0 : Fn) (p0_1 : Fn) (p0_2 : Fn) (p0_3 : Fn) (p0_4 : Int32) (p0_5 : Fn) (p0_6 : Fn) (p0_7 : Fn) (p0_8 : Int32) (p0_9 : Int32) (p0_10 : Int32) (p0_11 : Int32) (p0_12 : Int32) (p0_13 : Int32) (x1 : Int32) (x2 : Int32) (hm : 0 ≤ x1.toInt ∧ x1.toInt ≤ 135) (hm2 : 0 ≤ x2.toInt ∧ x2.toInt ≤ 135) (h_p0 : inMod G Ω p0 p0_0 p0_1 p0_2 p0_3 p0_4 p0_5 p0_6 p0_7 p0_8 p0_9 p0_10 p0_11 p0_12 p0_13) : Met l yX9_copyMachine (wz yX9_copyMachine cX9_copyMachine 4 none) ({ frames := 0, cells := 0, slots := 0, locals := 0 } : Room) (va_Pc [.ref p0, .int x1, .int x2] (oS G A Ω)) (va_Qv (fun (Ω1 : Om) => inMod G Ω1 p0 p0_0 p0_1 ((f_X9_copyMachine p0_2 x1 x2)) p0_3 p0_4 p0_5 p0_6 p0_7 p0_8 p0_9 p0_10 p0_11 p0_12 p0_13 ∧ (∀ q : Nat, (q < p0 ∨ p0 + 8 ≤ q) → Ω1 q = Ω q)) (oB G A) A) 0 0 A := by
  refine Met.ofW (cc := cX9_copyMachine) (maxL := 4) (ret := none) (by decide) rfl ?_
  intro p e s m args below meth c s₁ B hml hv
  obtain ⟨rfl, hW, hK, hN, hZ⟩ := hv
  have hx := B.exec
  have hb := B.bytes
  have hr := B.returns
  have hts : ∀ w ∈ gt, w.before _ s = true := fun w hw => atoms_spec (ws := wz yX9_copyMachine cX9_copyMachine 4 none) B.pre w (List.mem_cons_of_mem _ hw)
  have hown : s.vm.findClass RX9 = some m.cls := findClass_of_methodNamed B.named
  have hlocks := B.notSynchronized
  have hA : ∀ q, A q → A q := fun _ h => h
  have hS : va_S A s.heap s.heap [] := va_S.rf
  have hS0 := hS
  have hl := lv_entry ([.ref p0, .int x1, .int x2]) (n := 4) (Nat.le_of_ble_eq_true rfl)
  rw [lg_entry_eq]
  generalize (lg_sl ([.ref p0, .int x1, .int x2]) ++ List.replicate (4 - (lg_sl ([.ref p0, .int x1, .int x2])).length) Slot.unset).toArray = ls at hl ⊢
  have hl : lv_has ls 4 [(0, .ref p0), (1, .int x1), (2, .int x2)] := hl
  have hE : ∀ q : Nat, (q < p0 ∨ p0 + 8 ≤ q) → Ω q = Ω q := by intros; rfl
  generalize hR : (f_X9_copyMachine p0_2 x1 x2) = R
  rw [f_X9_copyMachine] at hR
  refine lv_iconst (v := (0 : Int32)) hx hb dX9_copyMachine_0 (by decide) ?_
  refine lv_istore_n (lv' := [(3, .int (0 : Int32)), (0, .ref p0), (1, .int x1), (2, .int x2)]) hx hb dX9_copyMachine_1 rfl hl (by decide) rfl (fun ls hl => ?_)
  have L2 : ∀ (n_2 : Nat) (x3_1 : Int32) (p0_2_1 : Fn) (Ω_3 : Om) (H : Heap) (locs : List Loc), (0 ≤ x3_1.toInt ∧ x3_1.toInt ≤ 36 ∧ 36 - x3_1.toInt < n_2) → inMod G Ω_3 p0 p0_0 p0_1 p0_2_1 p0_3 p0_4 p0_5 p0_6 p0_7 p0_8 p0_9 p0_10 p0_11 p0_12 p0_13 → (∀ q : Nat, (q < p0 ∨ p0 + 8 ≤ q) → Ω_3 q = Ω q) → oW G A Ω_3 H → va_S A s.heap H locs → ∀ ls : Array Slot, lv_has ls 4 [(0, .ref p0), (1, .int x1), (2, .int x2), (3, .int x3_1)] → (f_X9_copyMachine_L2 x1 x2 n_2 x3_1 p0_2_1) = R → W p l e (headSpec (wz yX9_copyMachine cX9_copyMachine 4 none) ({ frames := 0, cells := 0, slots := 0, locals := 0 } : Room)).room s m ([.ref p0, .int x1, .int x2] : List Value).toArray below meth c H locs 0 0 (MQ below (va_Qv (fun (Ω1 : Om) => inMod G Ω1 p0 p0_0 p0_1 (R) p0_3 p0_4 p0_5 p0_6 p0_7 p0_8 p0_9 p0_10 p0_11 p0_12 p0_13 ∧ (∀ q : Nat, (q < p0 ∨ p0 + 8 ≤ q) → Ω1 q = Ω q)) (oB G A) A) ([.ref p0, .int x1, .int x2] : List Value).toArray s 0 0 A) (F0 m 2 ls []) := by
    intro n_2
    induction n_2 with
    | zero =>
      intro x3_1 p0_2_1 Ω_3 H locs v_2_0 h_p0 hE hW hS ls hl hR
      exfalso
      omega
    | succ n_2 ih2 =>
      intro x3_1 p0_2_1 Ω_3 H locs v_2_0 h_p0 hE hW hS ls hl hR
      rw [f_X9_copyMachine_L2] at hR
      refine lv_iload_n hx hb dX9_copyMachine_2 rfl (lv_at hl 3 rfl) ?_
      refine lv_bipush (v := (36 : Int32)) hx hb dX9_copyMachine_3 (by decide) ?_
      have j_5 : (36 : Int32).toInt = 36 := by decide
      refine lv_icmp_ge (tgt := 30) hx hb dX9_copyMachine_5 (by decide) (fun c_4 => ?_) (fun c_4 => ?_)
      · rw [if_pos c_4] at hR
        have i_4 := rle c_4
        subst hR
        exact W.vret hx hb hr (fun t ht hW9 => ⟨⟨Ω_3, rfl, ⟨h_p0, hE⟩, by rw [oB, ht]; exact hW⟩, hS.F ht⟩) hS.2.2 dX9_copyMachine_30
      · rw [if_neg c_4] at hR
        have i_4 := rnle c_4
        refine lv_aload_n hx hb dX9_copyMachine_8 rfl (lv_at hl 0 rfl) ?_
        refine o_get hx hb hts hown hK hW (inMod_o h_p0) rfl ig9 2 (by decide) fl_X9_16 rfl dX9_copyMachine_9 ?_
        refine lv_iload_n hx hb dX9_copyMachine_12 rfl (lv_at hl 2 rfl) ?_
        refine lv_iload_n hx hb dX9_copyMachine_13 rfl (lv_at hl 3 rfl) ?_
        refine lv_iadd hx hb dX9_copyMachine_14 ?_
        refine lv_aload_n hx hb dX9_copyMachine_15 rfl (lv_at hl 0 rfl) ?_
        refine o_get hx hb hts hown hK hW (inMod_o h_p0) rfl ig9 2 (by decide) fl_X9_16 rfl dX9_copyMachine_16 ?_
        refine lv_iload_n hx hb dX9_copyMachine_19 rfl (lv_at hl 1 rfl) ?_
        refine lv_iload_n hx hb dX9_copyMachine_20 rfl (lv_at hl 3 rfl) ?_
        refine lv_iadd hx hb dX9_copyMachine_21 ?_
        try have j_6 : (x1 + x3_1).toInt = x1.toInt + x3_1.toInt := fb_addI (by omega) (by omega)
        refine o_iald hx hb hK hW (inMod_a2 h_p0) (vp_in_iff.mpr ⟨by omega, by omega⟩) dX9_copyMachine_22 ?_
        try have j_7 : (x2 + x3_1).toInt = x2.toInt + x3_1.toInt := fb_addI (by omega) (by omega)
        refine wMod_2 hx hb hK hW hS hA h_p0 (vp_in_iff.mpr ⟨by omega, by omega⟩) dX9_copyMachine_23 (fun Ω_8 H locs h_p0 hF_8 hW hS => ?_)
        have hE : ∀ q : Nat, (q < p0 ∨ p0 + 8 ≤ q) → Ω_8 q = Ω q := fun q g0 => (hF_8 q (by omega)).trans (hE q g0)
        refine lv_iinc (v := (x3_1 + (1 : Int32))) (lv' := [(3, .int (x3_1 + (1 : Int32))), (0, .ref p0), (1, .int x1), (2, .int x2)]) hx hb dX9_copyMachine_24 hl (k := 3) rfl rfl (by decide) rfl (fun ls hl => ?_)
        refine lv_goto (tgt := 2) hx hb dX9_copyMachine_27 (by decide) ?_
        have j_9 : (1 : Int32).toInt = 1 := by decide
        try have j_10 : (x3_1 + (1 : Int32)).toInt = x3_1.toInt + (1 : Int32).toInt := fb_addI (by omega) (by omega)
        exact ih2 (x3_1 + (1 : Int32)) (upd p0_2_1 (x2 + x3_1).toNatClampNeg (p0_2_1 (x1 + x3_1).toNatClampNeg)) Ω_8 H locs (by omega) h_p0 hE hW hS ls (lv_sub hl [1, 2, 3, 0] rfl) hR
  have j_11 : (0 : Int32).toInt = 0 := by decide
  exact L2 4000 (0 : Int32) p0_2 Ω s.heap [] (by omega) h_p0 hE hW hS ls (lv_sub hl [1, 2, 3, 0] rfl) hR
set_option maxHeartbeats 4000000 in
set_option maxRecDepth 100000 in
theorem c_X9_otherFields (l : Launch) (G : Gm) (A : Nat → Prop) (Ω : Om) (p0 : Nat) (p0_0 : Fn) (p0_1 : Fn) (p0_2 : Fn) (p0_3 : Fn) (p0_4 : Int32) (p0_5 : Fn) (p0_6 : Fn) (p0_7 : Fn) (p0_8 : Int32) (p0_9 : Int32) (p0_10 : Int32) (p0_11 : Int32) (p0_12 : Int32) (p0_13 : Int32) (x1 : Int32) (x2 : Int32) (hM_p0 : ToldInv p0_0) (hm : 0 ≤ x1.toInt ∧ x1.toInt ≤ 135) (hm2 : 0 ≤ x2.toInt ∧ x2.toInt ≤ 135) (h_p0 : inMod G Ω p0 p0_0 p0_1 p0_2 p0_3 p0_4 p0_5 p0_6 p0_7 p0_8 p0_9 p0_10 p0_11 p0_12 p0_13) : Met l yX9_otherFields (wz yX9_otherFields cX9_otherFields 5 (some .int)) ({ frames := 1, cells := 0, slots := 0, locals := 20 } : Room) (va_Pc [.ref p0, .int x1, .int x2] (oS G A Ω)) (va_Qi (fun (r : Int32) (Ω1 : Om) => r = (f_X9_otherFields p0_0 p0_2 x1 x2) ∧ Ω1 = Ω) (oB G A) A) 0 0 A := by
  refine Met.ofW (cc := cX9_otherFields) (maxL := 5) (ret := (some .int)) (by decide) rfl ?_
  intro p e s m args below meth c s₁ B hml hv
  obtain ⟨rfl, hW, hK, hN, hZ⟩ := hv
  have hx := B.exec
  have hb := B.bytes
  have hr := B.returns
  have hts : ∀ w ∈ gt, w.before _ s = true := fun w hw => atoms_spec (ws := wz yX9_otherFields cX9_otherFields 5 (some .int)) B.pre w (List.mem_cons_of_mem _ hw)
  have hown : s.vm.findClass RX9 = some m.cls := findClass_of_methodNamed B.named
  have hlocks := B.notSynchronized
  have hA : ∀ q, A q → A q := fun _ h => h
  have hS : va_S A s.heap s.heap [] := va_S.rf
  have hS0 := hS
  have hl := lv_entry ([.ref p0, .int x1, .int x2]) (n := 5) (Nat.le_of_ble_eq_true rfl)
  rw [lg_entry_eq]
  generalize (lg_sl ([.ref p0, .int x1, .int x2]) ++ List.replicate (5 - (lg_sl ([.ref p0, .int x1, .int x2])).length) Slot.unset).toArray = ls at hl ⊢
  have hl : lv_has ls 5 [(0, .ref p0), (1, .int x1), (2, .int x2)] := hl
  generalize hR : (f_X9_otherFields p0_0 p0_2 x1 x2) = R
  rw [f_X9_otherFields] at hR
  refine lv_iconst (v := (0 : Int32)) hx hb dX9_otherFields_0 (by decide) ?_
  refine lv_istore_n (lv' := [(3, .int (0 : Int32)), (0, .ref p0), (1, .int x1), (2, .int x2)]) hx hb dX9_otherFields_1 rfl hl (by decide) rfl (fun ls hl => ?_)
  refine lv_iconst (v := (0 : Int32)) hx hb dX9_otherFields_2 (by decide) ?_
  refine lv_istore (lv' := [(4, .int (0 : Int32)), (3, .int (0 : Int32)), (0, .ref p0), (1, .int x1), (2, .int x2)]) hx hb dX9_otherFields_3 hl (by decide) rfl (fun ls hl => ?_)
  have L5 : ∀ (n_2 : Nat) (x3_1 : Int32) (x4_1 : Int32) (H : Heap) (locs : List Loc), (0 ≤ x4_1.toInt ∧ x4_1.toInt ≤ 12 ∧ 12 - x4_1.toInt < n_2) → oW G A Ω H → va_S A s.heap H locs → ∀ ls : Array Slot, lv_has ls 5 [(0, .ref p0), (1, .int x1), (2, .int x2), (3, .int x3_1), (4, .int x4_1)] → (f_X9_otherFields_L5 p0_0 p0_2 x1 x2 n_2 x3_1 x4_1) = R → W p l e (headSpec (wz yX9_otherFields cX9_otherFields 5 (some .int)) ({ frames := 1, cells := 0, slots := 0, locals := 20 } : Room)).room s m ([.ref p0, .int x1, .int x2] : List Value).toArray below meth c H locs 0 0 (MQ below (va_Qi (fun (r : Int32) (Ω1 : Om) => r = R ∧ Ω1 = Ω) (oB G A) A) ([.ref p0, .int x1, .int x2] : List Value).toArray s 0 0 A) (F0 m 5 ls []) := by
    intro n_2
    induction n_2 with
    | zero =>
      intro x3_1 x4_1 H locs v_5_0 hW hS ls hl hR
      exfalso
      omega
    | succ n_2 ih5 =>
      intro x3_1 x4_1 H locs v_5_0 hW hS ls hl hR
      rw [f_X9_otherFields_L5] at hR
      refine lv_iload hx hb dX9_otherFields_5 (lv_at hl 4 rfl) ?_
      refine lv_aload_n hx hb dX9_otherFields_7 rfl (lv_at hl 0 rfl) ?_
      refine o_ViR (rest := [.int x4_1]) (As := []) (n := 0) hx hb hml hown hts hK hN hZ hW hS hA (c_X9_fields l G A Ω p0 p0_0 p0_1 p0_2 p0_3 p0_4 p0_5 p0_6 p0_7 p0_8 p0_9 p0_10 p0_11 p0_12 p0_13 hM_p0 h_p0) (inMod_o h_p0) rfl (good_V ml_X9_35 im_X9_fields se_X9_fields ini_X9 co_X9_fields) (by decide +kernel) ⟨Nat.zero_le _, Nat.zero_le _⟩ hl.1 (Nat.le_of_ble_eq_true rfl) rfl rfl dX9_otherFields_8 (fun r H locs hp hW hS => ?_)
      subst hp
      try have j_5 : 0 ≤ (f_X9_fields p0_0).toInt ∧ (f_X9_fields p0_0).toInt ≤ 12 := TI_91 hM_p0
      refine lv_icmp_ge (tgt := 52) hx hb dX9_otherFields_11 (by decide) (fun c_4 => ?_) (fun c_4 => ?_)
      · rw [if_pos c_4] at hR
        have i_4 := rle c_4
        refine lv_iload_n hx hb dX9_otherFields_52 rfl (lv_at hl 3 rfl) ?_
        subst hR
        exact W.iret (v := x3_1) hx hb hr (fun t ht hW9 => ⟨⟨x3_1, Ω, rfl, ⟨rfl, rfl⟩, by rw [oB, ht]; exact hW⟩, hS.F ht⟩) hS.2.2 dX9_otherFields_53
      · rw [if_neg c_4] at hR
        have i_4 := rnle c_4
        refine lv_iload_n hx hb dX9_otherFields_14 rfl (lv_at hl 3 rfl) ?_
        refine lv_aload_n hx hb dX9_otherFields_15 rfl (lv_at hl 0 rfl) ?_
        refine o_get hx hb hts hown hK hW (inMod_o h_p0) rfl ig9 2 (by decide) fl_X9_16 rfl dX9_otherFields_16 ?_
        refine lv_iload_n hx hb dX9_otherFields_19 rfl (lv_at hl 1 rfl) ?_
        refine lv_iload hx hb dX9_otherFields_20 (lv_at hl 4 rfl) ?_
        refine lv_iadd hx hb dX9_otherFields_22 ?_
        try have j_6 : (x1 + x4_1).toInt = x1.toInt + x4_1.toInt := fb_addI (by omega) (by omega)
        refine o_iald hx hb hK hW (inMod_a2 h_p0) (vp_in_iff.mpr ⟨by omega, by omega⟩) dX9_otherFields_23 ?_
        refine lv_aload_n hx hb dX9_otherFields_24 rfl (lv_at hl 0 rfl) ?_
        refine o_get hx hb hts hown hK hW (inMod_o h_p0) rfl ig9 2 (by decide) fl_X9_16 rfl dX9_otherFields_25 ?_
        refine lv_iload_n hx hb dX9_otherFields_28 rfl (lv_at hl 2 rfl) ?_
        refine lv_iload hx hb dX9_otherFields_29 (lv_at hl 4 rfl) ?_
        refine lv_iadd hx hb dX9_otherFields_31 ?_
        try have j_7 : (x2 + x4_1).toInt = x2.toInt + x4_1.toInt := fb_addI (by omega) (by omega)
        refine o_iald hx hb hK hW (inMod_a2 h_p0) (vp_in_iff.mpr ⟨by omega, by omega⟩) dX9_otherFields_32 ?_
        refine lv_icmp_ne (tgt := 40) hx hb dX9_otherFields_33 (by decide) (fun c_8 => ?_) (fun c_8 => ?_)
        · rw [if_neg c_8] at hR
          have i_8 := rne c_8
          refine lv_iconst (v := (1 : Int32)) hx hb dX9_otherFields_40 (by decide) ?_
          refine lv_iload hx hb dX9_otherFields_41 (lv_at hl 4 rfl) ?_
          refine lv_ishl hx hb dX9_otherFields_43 ?_
          refine lv_ior hx hb dX9_otherFields_44 ?_
          refine lv_istore_n (lv' := [(3, .int (x3_1 ||| ((1 : Int32) <<< (x4_1 &&& 31)))), (0, .ref p0), (1, .int x1), (2, .int x2), (4, .int x4_1)]) hx hb dX9_otherFields_45 rfl hl (by decide) rfl (fun ls hl => ?_)
          refine lv_iinc (v := (x4_1 + (1 : Int32))) (lv' := [(4, .int (x4_1 + (1 : Int32))), (3, .int (x3_1 ||| ((1 : Int32) <<< (x4_1 &&& 31)))), (0, .ref p0), (1, .int x1), (2, .int x2)]) hx hb dX9_otherFields_46 hl (k := 4) rfl rfl (by decide) rfl (fun ls hl => ?_)
          refine lv_goto (tgt := 5) hx hb dX9_otherFields_49 (by decide) ?_
          have j_9 : (1 : Int32).toInt = 1 := by decide
          try have j_10 : (x4_1 + (1 : Int32)).toInt = x4_1.toInt + (1 : Int32).toInt := fb_addI (by omega) (by omega)
          exact ih5 (x3_1 ||| ((1 : Int32) <<< (x4_1 &&& 31))) (x4_1 + (1 : Int32)) H locs (by omega) hW hS ls (lv_sub hl [2, 3, 4, 1, 0] rfl) hR
        · rw [if_pos c_8] at hR
          have i_8 := congrArg Int32.toInt c_8
          refine lv_iconst (v := (0 : Int32)) hx hb dX9_otherFields_36 (by decide) ?_
          refine lv_goto (tgt := 44) hx hb dX9_otherFields_37 (by decide) ?_
          refine lv_ior hx hb dX9_otherFields_44 ?_
          refine lv_istore_n (lv' := [(3, .int (x3_1 ||| (0 : Int32))), (0, .ref p0), (1, .int x1), (2, .int x2), (4, .int x4_1)]) hx hb dX9_otherFields_45 rfl hl (by decide) rfl (fun ls hl => ?_)
          refine lv_iinc (v := (x4_1 + (1 : Int32))) (lv' := [(4, .int (x4_1 + (1 : Int32))), (3, .int (x3_1 ||| (0 : Int32))), (0, .ref p0), (1, .int x1), (2, .int x2)]) hx hb dX9_otherFields_46 hl (k := 4) rfl rfl (by decide) rfl (fun ls hl => ?_)
          refine lv_goto (tgt := 5) hx hb dX9_otherFields_49 (by decide) ?_
          have j_11 : (1 : Int32).toInt = 1 := by decide
          try have j_12 : (x4_1 + (1 : Int32)).toInt = x4_1.toInt + (1 : Int32).toInt := fb_addI (by omega) (by omega)
          exact ih5 (x3_1 ||| (0 : Int32)) (x4_1 + (1 : Int32)) H locs (by omega) hW hS ls (lv_sub hl [2, 3, 4, 1, 0] rfl) hR
  have j_13 : (0 : Int32).toInt = 0 := by decide
  exact L5 4000 (0 : Int32) (0 : Int32) s.heap [] (by omega) hW hS ls (lv_sub hl [2, 3, 4, 1, 0] rfl) hR
set_option maxHeartbeats 4000000 in
set_option maxRecDepth 100000 in
theorem c_X9_note (l : Launch) (G : Gm) (A : Nat → Prop) (Ω : Om) (p0 : Nat) (p0_0 : Fn) (p0_1 : Fn) (p0_2 : Fn) (p0_3 : Fn) (p0_4 : Int32) (p0_5 : Fn) (p0_6 : Fn) (p0_7 : Fn) (p0_8 : Int32) (p0_9 : Int32) (p0_10 : Int32) (p0_11 : Int32) (p0_12 : Int32) (p0_13 : Int32) (hp : 0 ≤ p0_4.toInt ∧ p0_4.toInt ≤ 6) (h_p0 : inMod G Ω p0 p0_0 p0_1 p0_2 p0_3 p0_4 p0_5 p0_6 p0_7 p0_8 p0_9 p0_10 p0_11 p0_12 p0_13) : Met l yX9_note (wz yX9_note cX9_note 2 none) ({ frames := 0, cells := 0, slots := 0, locals := 0 } : Room) (va_Pc [.ref p0] (oS G A Ω)) (va_Qv (fun (Ω1 : Om) => inMod G Ω1 p0 p0_0 p0_1 p0_2 ((f_X9_note p0_2 p0_3 p0_4).1) ((f_X9_note p0_2 p0_3 p0_4).2) p0_5 p0_6 p0_7 p0_8 p0_9 p0_10 p0_11 p0_12 p0_13 ∧ (∀ q : Nat, (q < p0 ∨ p0 + 8 ≤ q) → Ω1 q = Ω q)) (oB G A) A) 0 0 A := by
  refine Met.ofW (cc := cX9_note) (maxL := 2) (ret := none) (by decide) rfl ?_
  intro p e s m args below meth c s₁ B hml hv
  obtain ⟨rfl, hW, hK, hN, hZ⟩ := hv
  have hx := B.exec
  have hb := B.bytes
  have hr := B.returns
  have hts : ∀ w ∈ gt, w.before _ s = true := fun w hw => atoms_spec (ws := wz yX9_note cX9_note 2 none) B.pre w (List.mem_cons_of_mem _ hw)
  have hown : s.vm.findClass RX9 = some m.cls := findClass_of_methodNamed B.named
  have hlocks := B.notSynchronized
  have hA : ∀ q, A q → A q := fun _ h => h
  have hS : va_S A s.heap s.heap [] := va_S.rf
  have hS0 := hS
  have hl := lv_entry ([.ref p0]) (n := 2) (Nat.le_of_ble_eq_true rfl)
  rw [lg_entry_eq]
  generalize (lg_sl ([.ref p0]) ++ List.replicate (2 - (lg_sl ([.ref p0])).length) Slot.unset).toArray = ls at hl ⊢
  have hl : lv_has ls 2 [(0, .ref p0)] := hl
  have hE : ∀ q : Nat, (q < p0 ∨ p0 + 8 ≤ q) → Ω q = Ω q := by intros; rfl
  generalize hR : (f_X9_note p0_2 p0_3 p0_4) = R
  rw [f_X9_note] at hR
  refine lv_aload_n hx hb dX9_note_0 rfl (lv_at hl 0 rfl) ?_
  refine o_get hx hb hts hown hK hW (inMod_o h_p0) rfl ig9 4 (by decide) fl_X9_60 rfl dX9_note_1 ?_
  refine lv_bipush (v := (6 : Int32)) hx hb dX9_note_4 (by decide) ?_
  have J50 : ∀ (p0_3_1 : Fn) (p0_4_1 : Int32) (Ω_2 : Om) (H : Heap) (locs : List Loc), (0 ≤ p0_4_1.toInt ∧ p0_4_1.toInt ≤ 5) → inMod G Ω_2 p0 p0_0 p0_1 p0_2 p0_3_1 p0_4_1 p0_5 p0_6 p0_7 p0_8 p0_9 p0_10 p0_11 p0_12 p0_13 → (∀ q : Nat, (q < p0 ∨ p0 + 8 ≤ q) → Ω_2 q = Ω q) → oW G A Ω_2 H → va_S A s.heap H locs → ∀ ls : Array Slot, lv_has ls 2 [(0, .ref p0)] → (f_X9_note_J50 p0_2 p0_3_1 p0_4_1) = R → W p l e (headSpec (wz yX9_note cX9_note 2 none) ({ frames := 0, cells := 0, slots := 0, locals := 0 } : Room)).room s m ([.ref p0] : List Value).toArray below meth c H locs 0 0 (MQ below (va_Qv (fun (Ω1 : Om) => inMod G Ω1 p0 p0_0 p0_1 p0_2 (R.1) (R.2) p0_5 p0_6 p0_7 p0_8 p0_9 p0_10 p0_11 p0_12 p0_13 ∧ (∀ q : Nat, (q < p0 ∨ p0 + 8 ≤ q) → Ω1 q = Ω q)) (oB G A) A) ([.ref p0] : List Value).toArray s 0 0 A) (F0 m 50 ls []) := by
    intro p0_3_1 p0_4_1 Ω_2 H locs v_50_0 h_p0 hE hW hS ls hl hR
    rw [f_X9_note_J50] at hR
    refine lv_iconst (v := (0 : Int32)) hx hb dX9_note_50 (by decide) ?_
    refine lv_istore_n (lv' := [(1, .int (0 : Int32)), (0, .ref p0)]) hx hb dX9_note_51 rfl hl (by decide) rfl (fun ls hl => ?_)
    have L52 : ∀ (n_4 : Nat) (x1_3 : Int32) (p0_3_3 : Fn) (Ω_5 : Om) (H : Heap) (locs : List Loc), (0 ≤ x1_3.toInt ∧ x1_3.toInt ≤ 135 ∧ 135 - x1_3.toInt < n_4) → inMod G Ω_5 p0 p0_0 p0_1 p0_2 p0_3_3 p0_4_1 p0_5 p0_6 p0_7 p0_8 p0_9 p0_10 p0_11 p0_12 p0_13 → (∀ q : Nat, (q < p0 ∨ p0 + 8 ≤ q) → Ω_5 q = Ω q) → oW G A Ω_5 H → va_S A s.heap H locs → ∀ ls : Array Slot, lv_has ls 2 [(0, .ref p0), (1, .int x1_3)] → (f_X9_note_L52 p0_2 p0_4_1 n_4 x1_3 p0_3_3) = R → W p l e (headSpec (wz yX9_note cX9_note 2 none) ({ frames := 0, cells := 0, slots := 0, locals := 0 } : Room)).room s m ([.ref p0] : List Value).toArray below meth c H locs 0 0 (MQ below (va_Qv (fun (Ω1 : Om) => inMod G Ω1 p0 p0_0 p0_1 p0_2 (R.1) (R.2) p0_5 p0_6 p0_7 p0_8 p0_9 p0_10 p0_11 p0_12 p0_13 ∧ (∀ q : Nat, (q < p0 ∨ p0 + 8 ≤ q) → Ω1 q = Ω q)) (oB G A) A) ([.ref p0] : List Value).toArray s 0 0 A) (F0 m 52 ls []) := by
      intro n_4
      induction n_4 with
      | zero =>
        intro x1_3 p0_3_3 Ω_5 H locs v_52_0 h_p0 hE hW hS ls hl hR
        exfalso
        omega
      | succ n_4 ih52 =>
        intro x1_3 p0_3_3 Ω_5 H locs v_52_0 h_p0 hE hW hS ls hl hR
        rw [f_X9_note_L52] at hR
        refine lv_iload_n hx hb dX9_note_52 rfl (lv_at hl 1 rfl) ?_
        refine lv_sipush (v := (135 : Int32)) hx hb dX9_note_53 (by decide) ?_
        have j_7 : (135 : Int32).toInt = 135 := by decide
        refine lv_icmp_ge (tgt := 86) hx hb dX9_note_56 (by decide) (fun c_6 => ?_) (fun c_6 => ?_)
        · rw [if_pos c_6] at hR
          have i_6 := rle c_6
          refine lv_aload_n hx hb dX9_note_86 rfl (lv_at hl 0 rfl) ?_
          refine lv_dup hx hb dX9_note_87 rfl ?_
          refine o_get hx hb hts hown hK hW (inMod_o h_p0) rfl ig9 4 (by decide) fl_X9_60 rfl dX9_note_88 ?_
          refine lv_iconst (v := (1 : Int32)) hx hb dX9_note_91 (by decide) ?_
          refine lv_iadd hx hb dX9_note_92 ?_
          refine vMod_4 hx hb hts hown hK hW hS hA h_p0 fl_X9_60 dX9_note_93 (fun Ω_8 H locs h_p0 hF_8 hW hS => ?_)
          have hE : ∀ q : Nat, (q < p0 ∨ p0 + 8 ≤ q) → Ω_8 q = Ω q := fun q g0 => (hF_8 q (by omega)).trans (hE q g0)
          subst hR
          exact W.vret hx hb hr (fun t ht hW9 => ⟨⟨Ω_8, rfl, ⟨h_p0, hE⟩, by rw [oB, ht]; exact hW⟩, hS.F ht⟩) hS.2.2 dX9_note_96
        · rw [if_neg c_6] at hR
          have i_6 := rnle c_6
          refine lv_aload_n hx hb dX9_note_59 rfl (lv_at hl 0 rfl) ?_
          refine o_get hx hb hts hown hK hW (inMod_o h_p0) rfl ig9 3 (by decide) fl_X9_19 rfl dX9_note_60 ?_
          refine lv_sipush (v := (135 : Int32)) hx hb dX9_note_63 (by decide) ?_
          refine lv_aload_n hx hb dX9_note_66 rfl (lv_at hl 0 rfl) ?_
          refine o_get hx hb hts hown hK hW (inMod_o h_p0) rfl ig9 4 (by decide) fl_X9_60 rfl dX9_note_67 ?_
          refine lv_imul hx hb dX9_note_70 ?_
          refine lv_iload_n hx hb dX9_note_71 rfl (lv_at hl 1 rfl) ?_
          refine lv_iadd hx hb dX9_note_72 ?_
          refine lv_aload_n hx hb dX9_note_73 rfl (lv_at hl 0 rfl) ?_
          refine o_get hx hb hts hown hK hW (inMod_o h_p0) rfl ig9 2 (by decide) fl_X9_16 rfl dX9_note_74 ?_
          refine lv_iload_n hx hb dX9_note_77 rfl (lv_at hl 1 rfl) ?_
          refine o_iald hx hb hK hW (inMod_a2 h_p0) (vp_in_iff.mpr ⟨by omega, by omega⟩) dX9_note_78 ?_
          try have j_9 : ((135 : Int32) * p0_4_1).toInt = 135 * p0_4_1.toInt := rg_mul2 (by decide) (by omega) (by omega)
          try have j_10 : (((135 : Int32) * p0_4_1) + x1_3).toInt = ((135 : Int32) * p0_4_1).toInt + x1_3.toInt := fb_addI (by omega) (by omega)
          refine wMod_3 hx hb hK hW hS hA h_p0 (vp_in_iff.mpr ⟨by omega, by omega⟩) dX9_note_79 (fun Ω_11 H locs h_p0 hF_11 hW hS => ?_)
          have hE : ∀ q : Nat, (q < p0 ∨ p0 + 8 ≤ q) → Ω_11 q = Ω q := fun q g0 => (hF_11 q (by omega)).trans (hE q g0)
          refine lv_iinc (v := (x1_3 + (1 : Int32))) (lv' := [(1, .int (x1_3 + (1 : Int32))), (0, .ref p0)]) hx hb dX9_note_80 hl (k := 1) rfl rfl (by decide) rfl (fun ls hl => ?_)
          refine lv_goto (tgt := 52) hx hb dX9_note_83 (by decide) ?_
          have j_12 : (1 : Int32).toInt = 1 := by decide
          try have j_13 : (x1_3 + (1 : Int32)).toInt = x1_3.toInt + (1 : Int32).toInt := fb_addI (by omega) (by omega)
          exact ih52 (x1_3 + (1 : Int32)) (upd p0_3_3 (((135 : Int32) * p0_4_1) + x1_3).toNatClampNeg (p0_2 x1_3.toNatClampNeg)) Ω_11 H locs (by omega) h_p0 hE hW hS ls (lv_sub hl [1, 0] rfl) hR
    have j_14 : (0 : Int32).toInt = 0 := by decide
    exact L52 4000 (0 : Int32) p0_3_1 Ω_2 H locs (by omega) h_p0 hE hW hS ls (lv_sub hl [1, 0] rfl) hR
  have j_16 : (6 : Int32).toInt = 6 := by decide
  refine lv_icmp_ne (tgt := 50) hx hb dX9_note_6 (by decide) (fun c_15 => ?_) (fun c_15 => ?_)
  · rw [if_neg c_15] at hR
    have i_15 := rne c_15
    exact J50 p0_3 p0_4 Ω s.heap [] (by omega) h_p0 hE hW hS ls (lv_sub hl [0] rfl) hR
  · rw [if_pos c_15] at hR
    have i_15 := congrArg Int32.toInt c_15
    refine lv_iconst (v := (0 : Int32)) hx hb dX9_note_9 (by decide) ?_
    refine lv_istore_n (lv' := [(1, .int (0 : Int32)), (0, .ref p0)]) hx hb dX9_note_10 rfl hl (by decide) rfl (fun ls hl => ?_)
    have L11 : ∀ (n_18 : Nat) (x1_17 : Int32) (p0_3_17 : Fn) (Ω_19 : Om) (H : Heap) (locs : List Loc), (0 ≤ x1_17.toInt ∧ x1_17.toInt ≤ 675 ∧ 675 - x1_17.toInt < n_18) → inMod G Ω_19 p0 p0_0 p0_1 p0_2 p0_3_17 p0_4 p0_5 p0_6 p0_7 p0_8 p0_9 p0_10 p0_11 p0_12 p0_13 → (∀ q : Nat, (q < p0 ∨ p0 + 8 ≤ q) → Ω_19 q = Ω q) → oW G A Ω_19 H → va_S A s.heap H locs → ∀ ls : Array Slot, lv_has ls 2 [(0, .ref p0), (1, .int x1_17)] → (f_X9_note_L11 p0_2 p0_4 n_18 x1_17 p0_3_17) = R → W p l e (headSpec (wz yX9_note cX9_note 2 none) ({ frames := 0, cells := 0, slots := 0, locals := 0 } : Room)).room s m ([.ref p0] : List Value).toArray below meth c H locs 0 0 (MQ below (va_Qv (fun (Ω1 : Om) => inMod G Ω1 p0 p0_0 p0_1 p0_2 (R.1) (R.2) p0_5 p0_6 p0_7 p0_8 p0_9 p0_10 p0_11 p0_12 p0_13 ∧ (∀ q : Nat, (q < p0 ∨ p0 + 8 ≤ q) → Ω1 q = Ω q)) (oB G A) A) ([.ref p0] : List Value).toArray s 0 0 A) (F0 m 11 ls []) := by
      intro n_18
      induction n_18 with
      | zero =>
        intro x1_17 p0_3_17 Ω_19 H locs v_11_0 h_p0 hE hW hS ls hl hR
        exfalso
        omega
      | succ n_18 ih11 =>
        intro x1_17 p0_3_17 Ω_19 H locs v_11_0 h_p0 hE hW hS ls hl hR
        rw [f_X9_note_L11] at hR
        refine lv_iload_n hx hb dX9_note_11 rfl (lv_at hl 1 rfl) ?_
        refine lv_sipush (v := (675 : Int32)) hx hb dX9_note_12 (by decide) ?_
        have j_21 : (675 : Int32).toInt = 675 := by decide
        refine lv_icmp_ge (tgt := 40) hx hb dX9_note_15 (by decide) (fun c_20 => ?_) (fun c_20 => ?_)
        · rw [if_pos c_20] at hR
          have i_20 := rle c_20
          refine lv_aload_n hx hb dX9_note_40 rfl (lv_at hl 0 rfl) ?_
          refine lv_dup hx hb dX9_note_41 rfl ?_
          refine o_get hx hb hts hown hK hW (inMod_o h_p0) rfl ig9 4 (by decide) fl_X9_60 rfl dX9_note_42 ?_
          refine lv_iconst (v := (1 : Int32)) hx hb dX9_note_45 (by decide) ?_
          refine lv_isub hx hb dX9_note_46 ?_
          refine vMod_4 hx hb hts hown hK hW hS hA h_p0 fl_X9_60 dX9_note_47 (fun Ω_22 H locs h_p0 hF_22 hW hS => ?_)
          have hE : ∀ q : Nat, (q < p0 ∨ p0 + 8 ≤ q) → Ω_22 q = Ω q := fun q g0 => (hF_22 q (by omega)).trans (hE q g0)
          have j_23 : (1 : Int32).toInt = 1 := by decide
          try have j_24 : (p0_4 - (1 : Int32)).toInt = p0_4.toInt - (1 : Int32).toInt := fb_subI (by omega) (by omega)
          exact J50 p0_3_17 (p0_4 - (1 : Int32)) Ω_22 H locs (by omega) h_p0 hE hW hS ls (lv_sub hl [0] rfl) hR
        · rw [if_neg c_20] at hR
          have i_20 := rnle c_20
          refine lv_aload_n hx hb dX9_note_18 rfl (lv_at hl 0 rfl) ?_
          refine o_get hx hb hts hown hK hW (inMod_o h_p0) rfl ig9 3 (by decide) fl_X9_19 rfl dX9_note_19 ?_
          refine lv_iload_n hx hb dX9_note_22 rfl (lv_at hl 1 rfl) ?_
          refine lv_aload_n hx hb dX9_note_23 rfl (lv_at hl 0 rfl) ?_
          refine o_get hx hb hts hown hK hW (inMod_o h_p0) rfl ig9 3 (by decide) fl_X9_19 rfl dX9_note_24 ?_
          refine lv_iload_n hx hb dX9_note_27 rfl (lv_at hl 1 rfl) ?_
          refine lv_sipush (v := (135 : Int32)) hx hb dX9_note_28 (by decide) ?_
          refine lv_iadd hx hb dX9_note_31 ?_
          have j_25 : (135 : Int32).toInt = 135 := by decide
          try have j_26 : (x1_17 + (135 : Int32)).toInt = x1_17.toInt + (135 : Int32).toInt := fb_addI (by omega) (by omega)
          refine o_iald hx hb hK hW (inMod_a3 h_p0) (vp_in_iff.mpr ⟨by omega, by omega⟩) dX9_note_32 ?_
          refine wMod_3 hx hb hK hW hS hA h_p0 (vp_in_iff.mpr ⟨by omega, by omega⟩) dX9_note_33 (fun Ω_27 H locs h_p0 hF_27 hW hS => ?_)
          have hE : ∀ q : Nat, (q < p0 ∨ p0 + 8 ≤ q) → Ω_27 q = Ω q := fun q g0 => (hF_27 q (by omega)).trans (hE q g0)
          refine lv_iinc (v := (x1_17 + (1 : Int32))) (lv' := [(1, .int (x1_17 + (1 : Int32))), (0, .ref p0)]) hx hb dX9_note_34 hl (k := 1) rfl rfl (by decide) rfl (fun ls hl => ?_)
          refine lv_goto (tgt := 11) hx hb dX9_note_37 (by decide) ?_
          have j_28 : (1 : Int32).toInt = 1 := by decide
          try have j_29 : (x1_17 + (1 : Int32)).toInt = x1_17.toInt + (1 : Int32).toInt := fb_addI (by omega) (by omega)
          exact ih11 (x1_17 + (1 : Int32)) (upd p0_3_17 x1_17.toNatClampNeg (p0_3_17 (x1_17 + (135 : Int32)).toNatClampNeg)) Ω_27 H locs (by omega) h_p0 hE hW hS ls (lv_sub hl [1, 0] rfl) hR
    have j_30 : (0 : Int32).toInt = 0 := by decide
    exact L11 4000 (0 : Int32) p0_3 Ω s.heap [] (by omega) h_p0 hE hW hS ls (lv_sub hl [1, 0] rfl) hR
set_option maxHeartbeats 4000000 in
set_option maxRecDepth 100000 in
theorem c_X9_resets (l : Launch) (G : Gm) (A : Nat → Prop) (Ω : Om) (p0 : Nat) (p0_0 : Fn) (p0_1 : Fn) (p0_2 : Fn) (p0_3 : Fn) (p0_4 : Int32) (p0_5 : Fn) (p0_6 : Fn) (p0_7 : Fn) (p0_8 : Int32) (p0_9 : Int32) (p0_10 : Int32) (p0_11 : Int32) (p0_12 : Int32) (p0_13 : Int32) (hM_p0 : ToldInv p0_0) (hp : 0 ≤ p0_4.toInt ∧ p0_4.toInt ≤ 6) (h_p0 : inMod G Ω p0 p0_0 p0_1 p0_2 p0_3 p0_4 p0_5 p0_6 p0_7 p0_8 p0_9 p0_10 p0_11 p0_12 p0_13) : Met l yX9_resets (wz yX9_resets cX9_resets 2 (some .int)) ({ frames := 2, cells := 0, slots := 0, locals := 42 } : Room) (va_Pc [.ref p0] (oS G A Ω)) (va_Qi (fun (r : Int32) (Ω1 : Om) => r = (f_X9_resets p0_0 p0_2 p0_3 p0_4).1 ∧ inMod G Ω1 p0 p0_0 p0_1 ((f_X9_resets p0_0 p0_2 p0_3 p0_4).2.1) ((f_X9_resets p0_0 p0_2 p0_3 p0_4).2.2.1) ((f_X9_resets p0_0 p0_2 p0_3 p0_4).2.2.2) p0_5 p0_6 p0_7 p0_8 p0_9 p0_10 p0_11 p0_12 p0_13 ∧ (∀ q : Nat, (q < p0 ∨ p0 + 8 ≤ q) → Ω1 q = Ω q)) (oB G A) A) 0 0 A := by
  refine Met.ofW (cc := cX9_resets) (maxL := 2) (ret := (some .int)) (by decide) rfl ?_
  intro p e s m args below meth c s₁ B hml hv
  obtain ⟨rfl, hW, hK, hN, hZ⟩ := hv
  have hx := B.exec
  have hb := B.bytes
  have hr := B.returns
  have hts : ∀ w ∈ gt, w.before _ s = true := fun w hw => atoms_spec (ws := wz yX9_resets cX9_resets 2 (some .int)) B.pre w (List.mem_cons_of_mem _ hw)
  have hown : s.vm.findClass RX9 = some m.cls := findClass_of_methodNamed B.named
  have hlocks := B.notSynchronized
  have hA : ∀ q, A q → A q := fun _ h => h
  have hS : va_S A s.heap s.heap [] := va_S.rf
  have hS0 := hS
  have hl := lv_entry ([.ref p0]) (n := 2) (Nat.le_of_ble_eq_true rfl)
  rw [lg_entry_eq]
  generalize (lg_sl ([.ref p0]) ++ List.replicate (2 - (lg_sl ([.ref p0])).length) Slot.unset).toArray = ls at hl ⊢
  have hl : lv_has ls 2 [(0, .ref p0)] := hl
  have hE : ∀ q : Nat, (q < p0 ∨ p0 + 8 ≤ q) → Ω q = Ω q := by intros; rfl
  generalize hR : (f_X9_resets p0_0 p0_2 p0_3 p0_4) = R
  rw [f_X9_resets] at hR
  refine lv_aload_n hx hb dX9_resets_0 rfl (lv_at hl 0 rfl) ?_
  refine o_Vv (rest := []) (As := []) (n := 0) hx hb hml hown hts hK hN hZ hW hS hA (c_X9_note l G A Ω p0 p0_0 p0_1 p0_2 p0_3 p0_4 p0_5 p0_6 p0_7 p0_8 p0_9 p0_10 p0_11 p0_12 p0_13 (by omega) h_p0) (inMod_o h_p0) rfl (good_V ml_X9_97 im_X9_note se_X9_note ini_X9 co_X9_note) (by decide +kernel) ⟨Nat.zero_le _, Nat.zero_le _⟩ hl.1 (Nat.le_of_ble_eq_true rfl) rfl rfl dX9_resets_1 (fun Ω_1 H locs hp hW hS => ?_)
  obtain ⟨h_p0, hF_1⟩ := hp
  have hE : ∀ q : Nat, (q < p0 ∨ p0 + 8 ≤ q) → Ω_1 q = Ω q := fun q g0 => (hF_1 q (by omega)).trans (hE q g0)
  generalize (f_X9_note p0_2 p0_3 p0_4) = Z_1 at h_p0 hR
  obtain ⟨z1_0, z1_1⟩ := Z_1
  dsimp only at h_p0 hR
  rw [f_X9_resets_C4] at hR
  refine lv_aload_n hx hb dX9_resets_4 rfl (lv_at hl 0 rfl) ?_
  refine o_get hx hb hts hown hK hW (inMod_o h_p0) rfl ig9 2 (by decide) fl_X9_16 rfl dX9_resets_5 ?_
  refine lv_bipush (v := (72 : Int32)) hx hb dX9_resets_8 (by decide) ?_
  have j_2 : (72 : Int32).toInt = 72 := by decide
  refine o_iald hx hb hK hW (inMod_a2 h_p0) (vp_in_iff.mpr ⟨by omega, by omega⟩) dX9_resets_10 ?_
  refine lv_istore_n (lv' := [(1, .int (p0_2 (72 : Int32).toNatClampNeg)), (0, .ref p0)]) hx hb dX9_resets_11 rfl hl (by decide) rfl (fun ls hl => ?_)
  refine lv_aload_n hx hb dX9_resets_12 rfl (lv_at hl 1 rfl) ?_
  refine lv_iconst (v := (0 : Int32)) hx hb dX9_resets_13 (by decide) ?_
  have j_3 : (0 : Int32).toInt = 0 := by decide
  refine o_Vv (rest := []) (As := [.int (0 : Int32)]) (n := 1) hx hb hml hown hts hK hN hZ hW hS hA (c_X9_reset l G A Ω_1 p0 p0_0 p0_1 p0_2 z1_0 z1_1 p0_5 p0_6 p0_7 p0_8 p0_9 p0_10 p0_11 p0_12 p0_13 (0 : Int32) hM_p0 (by omega) h_p0) (inMod_o h_p0) rfl (good_V ml_X9_54 im_X9_reset se_X9_reset ini_X9 co_X9_reset) (by decide +kernel) ⟨Nat.zero_le _, Nat.zero_le _⟩ hl.1 (Nat.le_of_ble_eq_true rfl) rfl rfl dX9_resets_14 (fun Ω_4 H locs hp hW hS => ?_)
  obtain ⟨h_p0, hF_4⟩ := hp
  have hE : ∀ q : Nat, (q < p0 ∨ p0 + 8 ≤ q) → Ω_4 q = Ω q := fun q g0 => (hF_4 q (by omega)).trans (hE q g0)
  have q72_4 : ((f_X9_reset p0_0 p0_2 (0 : Int32)) (72 : Int32).toNatClampNeg).toInt = (p0_2 (72 : Int32).toNatClampNeg).toInt := congrArg Int32.toInt (FR_reset (j := 72) (by omega) (by omega))
  refine lv_aload_n hx hb dX9_resets_17 rfl (lv_at hl 1 rfl) ?_
  refine lv_bipush (v := (36 : Int32)) hx hb dX9_resets_18 (by decide) ?_
  have j_5 : (36 : Int32).toInt = 36 := by decide
  refine o_Vv (rest := []) (As := [.int (36 : Int32)]) (n := 1) hx hb hml hown hts hK hN hZ hW hS hA (c_X9_reset l G A Ω_4 p0 p0_0 p0_1 (f_X9_reset p0_0 p0_2 (0 : Int32)) z1_0 z1_1 p0_5 p0_6 p0_7 p0_8 p0_9 p0_10 p0_11 p0_12 p0_13 (36 : Int32) hM_p0 (by omega) h_p0) (inMod_o h_p0) rfl (good_V ml_X9_54 im_X9_reset se_X9_reset ini_X9 co_X9_reset) (by decide +kernel) ⟨Nat.zero_le _, Nat.zero_le _⟩ hl.1 (Nat.le_of_ble_eq_true rfl) rfl rfl dX9_resets_20 (fun Ω_6 H locs hp hW hS => ?_)
  obtain ⟨h_p0, hF_6⟩ := hp
  have hE : ∀ q : Nat, (q < p0 ∨ p0 + 8 ≤ q) → Ω_6 q = Ω q := fun q g0 => (hF_6 q (by omega)).trans (hE q g0)
  have q72_6 : ((f_X9_reset p0_0 (f_X9_reset p0_0 p0_2 (0 : Int32)) (36 : Int32)) (72 : Int32).toNatClampNeg).toInt = ((f_X9_reset p0_0 p0_2 (0 : Int32)) (72 : Int32).toNatClampNeg).toInt := congrArg Int32.toInt (FR_reset (j := 72) (by omega) (by omega))
  refine lv_aload_n hx hb dX9_resets_23 rfl (lv_at hl 1 rfl) ?_
  refine o_Vv (rest := []) (As := []) (n := 0) hx hb hml hown hts hK hN hZ hW hS hA (c_X9_emptyLog l G A Ω_6 p0 p0_0 p0_1 (f_X9_reset p0_0 (f_X9_reset p0_0 p0_2 (0 : Int32)) (36 : Int32)) z1_0 z1_1 p0_5 p0_6 p0_7 p0_8 p0_9 p0_10 p0_11 p0_12 p0_13 h_p0) (inMod_o h_p0) rfl (good_V ml_X9_57 im_X9_emptyLog se_X9_emptyLog ini_X9 co_X9_emptyLog) (by decide +kernel) ⟨Nat.zero_le _, Nat.zero_le _⟩ hl.1 (Nat.le_of_ble_eq_true rfl) rfl rfl dX9_resets_24 (fun Ω_7 H locs hp hW hS => ?_)
  obtain ⟨h_p0, hF_7⟩ := hp
  have hE : ∀ q : Nat, (q < p0 ∨ p0 + 8 ≤ q) → Ω_7 q = Ω q := fun q g0 => (hF_7 q (by omega)).trans (hE q g0)
  refine lv_iload_n hx hb dX9_resets_27 rfl (lv_at hl 0 rfl) ?_
  subst hR
  exact W.iret (v := (p0_2 (72 : Int32).toNatClampNeg)) hx hb hr (fun t ht hW9 => ⟨⟨(p0_2 (72 : Int32).toNatClampNeg), Ω_7, rfl, ⟨rfl, h_p0, hE⟩, by rw [oB, ht]; exact hW⟩, hS.F ht⟩) hS.2.2 dX9_resets_28
set_option maxHeartbeats 4000000 in
set_option maxRecDepth 100000 in
theorem c_X9_logs (l : Launch) (G : Gm) (A : Nat → Prop) (Ω : Om) (p0 : Nat) (p0_0 : Fn) (p0_1 : Fn) (p0_2 : Fn) (p0_3 : Fn) (p0_4 : Int32) (p0_5 : Fn) (p0_6 : Fn) (p0_7 : Fn) (p0_8 : Int32) (p0_9 : Int32) (p0_10 : Int32) (p0_11 : Int32) (p0_12 : Int32) (p0_13 : Int32) (x1 : Int32) (x2 : Int32) (x3 : Int32) (hn : 0 ≤ (p0_2 (72 : Int32).toNatClampNeg).toInt ∧ (p0_2 (72 : Int32).toNatClampNeg).toInt < 20) (h_p0 : inMod G Ω p0 p0_0 p0_1 p0_2 p0_3 p0_4 p0_5 p0_6 p0_7 p0_8 p0_9 p0_10 p0_11 p0_12 p0_13) : Met l yX9_logs (wz yX9_logs cX9_logs 5 none) ({ frames := 0, cells := 0, slots := 0, locals := 0 } : Room) (va_Pc [.ref p0, .int x1, .int x2, .int x3] (oS G A Ω)) (va_Qv (fun (Ω1 : Om) => inMod G Ω1 p0 p0_0 p0_1 ((f_X9_logs p0_2 x1 x2 x3)) p0_3 p0_4 p0_5 p0_6 p0_7 p0_8 p0_9 p0_10 p0_11 p0_12 p0_13 ∧ (∀ q : Nat, (q < p0 ∨ p0 + 8 ≤ q) → Ω1 q = Ω q)) (oB G A) A) 0 0 A := by
  refine Met.ofW (cc := cX9_logs) (maxL := 5) (ret := none) (by decide) rfl ?_
  intro p e s m args below meth c s₁ B hml hv
  obtain ⟨rfl, hW, hK, hN, hZ⟩ := hv
  have hx := B.exec
  have hb := B.bytes
  have hr := B.returns
  have hts : ∀ w ∈ gt, w.before _ s = true := fun w hw => atoms_spec (ws := wz yX9_logs cX9_logs 5 none) B.pre w (List.mem_cons_of_mem _ hw)
  have hown : s.vm.findClass RX9 = some m.cls := findClass_of_methodNamed B.named
  have hlocks := B.notSynchronized
  have hA : ∀ q, A q → A q := fun _ h => h
  have hS : va_S A s.heap s.heap [] := va_S.rf
  have hS0 := hS
  have hl := lv_entry ([.ref p0, .int x1, .int x2, .int x3]) (n := 5) (Nat.le_of_ble_eq_true rfl)
  rw [lg_entry_eq]
  generalize (lg_sl ([.ref p0, .int x1, .int x2, .int x3]) ++ List.replicate (5 - (lg_sl ([.ref p0, .int x1, .int x2, .int x3])).length) Slot.unset).toArray = ls at hl ⊢
  have hl : lv_has ls 5 [(0, .ref p0), (1, .int x1), (2, .int x2), (3, .int x3)] := hl
  have hE : ∀ q : Nat, (q < p0 ∨ p0 + 8 ≤ q) → Ω q = Ω q := by intros; rfl
  generalize hR : (f_X9_logs p0_2 x1 x2 x3) = R
  rw [f_X9_logs] at hR
  refine lv_bipush (v := (73 : Int32)) hx hb dX9_logs_0 (by decide) ?_
  refine lv_iconst (v := (3 : Int32)) hx hb dX9_logs_2 (by decide) ?_
  refine lv_aload_n hx hb dX9_logs_3 rfl (lv_at hl 0 rfl) ?_
  refine o_get hx hb hts hown hK hW (inMod_o h_p0) rfl ig9 2 (by decide) fl_X9_16 rfl dX9_logs_4 ?_
  refine lv_bipush (v := (72 : Int32)) hx hb dX9_logs_7 (by decide) ?_
  have j_1 : (72 : Int32).toInt = 72 := by decide
  refine o_iald hx hb hK hW (inMod_a2 h_p0) (vp_in_iff.mpr ⟨by omega, by omega⟩) dX9_logs_9 ?_
  refine lv_imul hx hb dX9_logs_10 ?_
  refine lv_iadd hx hb dX9_logs_11 ?_
  refine lv_istore (lv' := [(4, .int ((73 : Int32) + ((3 : Int32) * (p0_2 (72 : Int32).toNatClampNeg)))), (0, .ref p0), (1, .int x1), (2, .int x2), (3, .int x3)]) hx hb dX9_logs_12 hl (by decide) rfl (fun ls hl => ?_)
  refine lv_aload_n hx hb dX9_logs_14 rfl (lv_at hl 1 rfl) ?_
  refine o_get hx hb hts hown hK hW (inMod_o h_p0) rfl ig9 2 (by decide) fl_X9_16 rfl dX9_logs_15 ?_
  refine lv_iload hx hb dX9_logs_18 (lv_at hl 0 rfl) ?_
  refine lv_iload_n hx hb dX9_logs_20 rfl (lv_at hl 2 rfl) ?_
  have j_2 : (73 : Int32).toInt = 73 := by decide
  have j_3 : (3 : Int32).toInt = 3 := by decide
  try have j_4 : ((3 : Int32) * (p0_2 (72 : Int32).toNatClampNeg)).toInt = 3 * (p0_2 (72 : Int32).toNatClampNeg).toInt := rg_mul2 (by decide) (by omega) (by omega)
  try have j_5 : ((73 : Int32) + ((3 : Int32) * (p0_2 (72 : Int32).toNatClampNeg))).toInt = (73 : Int32).toInt + ((3 : Int32) * (p0_2 (72 : Int32).toNatClampNeg)).toInt := fb_addI (by omega) (by omega)
  refine wMod_2 hx hb hK hW hS hA h_p0 (vp_in_iff.mpr ⟨by omega, by omega⟩) dX9_logs_21 (fun Ω_6 H locs h_p0 hF_6 hW hS => ?_)
  have hE : ∀ q : Nat, (q < p0 ∨ p0 + 8 ≤ q) → Ω_6 q = Ω q := fun q g0 => (hF_6 q (by omega)).trans (hE q g0)
  refine lv_aload_n hx hb dX9_logs_22 rfl (lv_at hl 1 rfl) ?_
  refine o_get hx hb hts hown hK hW (inMod_o h_p0) rfl ig9 2 (by decide) fl_X9_16 rfl dX9_logs_23 ?_
  refine lv_iload hx hb dX9_logs_26 (lv_at hl 0 rfl) ?_
  refine lv_iconst (v := (1 : Int32)) hx hb dX9_logs_28 (by decide) ?_
  refine lv_iadd hx hb dX9_logs_29 ?_
  refine lv_iload_n hx hb dX9_logs_30 rfl (lv_at hl 3 rfl) ?_
  have j_7 : (1 : Int32).toInt = 1 := by decide
  try have j_8 : (((73 : Int32) + ((3 : Int32) * (p0_2 (72 : Int32).toNatClampNeg))) + (1 : Int32)).toInt = ((73 : Int32) + ((3 : Int32) * (p0_2 (72 : Int32).toNatClampNeg))).toInt + (1 : Int32).toInt := fb_addI (by omega) (by omega)
  refine wMod_2 hx hb hK hW hS hA h_p0 (vp_in_iff.mpr ⟨by omega, by omega⟩) dX9_logs_31 (fun Ω_9 H locs h_p0 hF_9 hW hS => ?_)
  have hE : ∀ q : Nat, (q < p0 ∨ p0 + 8 ≤ q) → Ω_9 q = Ω q := fun q g0 => (hF_9 q (by omega)).trans (hE q g0)
  refine lv_aload_n hx hb dX9_logs_32 rfl (lv_at hl 1 rfl) ?_
  refine o_get hx hb hts hown hK hW (inMod_o h_p0) rfl ig9 2 (by decide) fl_X9_16 rfl dX9_logs_33 ?_
  refine lv_iload hx hb dX9_logs_36 (lv_at hl 0 rfl) ?_
  refine lv_iconst (v := (2 : Int32)) hx hb dX9_logs_38 (by decide) ?_
  refine lv_iadd hx hb dX9_logs_39 ?_
  refine lv_iload_n hx hb dX9_logs_40 rfl (lv_at hl 4 rfl) ?_
  have j_10 : (2 : Int32).toInt = 2 := by decide
  try have j_11 : (((73 : Int32) + ((3 : Int32) * (p0_2 (72 : Int32).toNatClampNeg))) + (2 : Int32)).toInt = ((73 : Int32) + ((3 : Int32) * (p0_2 (72 : Int32).toNatClampNeg))).toInt + (2 : Int32).toInt := fb_addI (by omega) (by omega)
  refine wMod_2 hx hb hK hW hS hA h_p0 (vp_in_iff.mpr ⟨by omega, by omega⟩) dX9_logs_41 (fun Ω_12 H locs h_p0 hF_12 hW hS => ?_)
  have hE : ∀ q : Nat, (q < p0 ∨ p0 + 8 ≤ q) → Ω_12 q = Ω q := fun q g0 => (hF_12 q (by omega)).trans (hE q g0)
  refine lv_aload_n hx hb dX9_logs_42 rfl (lv_at hl 1 rfl) ?_
  refine o_get hx hb hts hown hK hW (inMod_o h_p0) rfl ig9 2 (by decide) fl_X9_16 rfl dX9_logs_43 ?_
  refine lv_bipush (v := (72 : Int32)) hx hb dX9_logs_46 (by decide) ?_
  refine lv_dup2_11 hx hb dX9_logs_48 rfl rfl ?_
  refine o_iald hx hb hK hW (inMod_a2 h_p0) (vp_in_iff.mpr ⟨by omega, by omega⟩) dX9_logs_49 ?_
  refine lv_iconst (v := (1 : Int32)) hx hb dX9_logs_50 (by decide) ?_
  refine lv_iadd hx hb dX9_logs_51 ?_
  refine wMod_2 hx hb hK hW hS hA h_p0 (vp_in_iff.mpr ⟨by omega, by omega⟩) dX9_logs_52 (fun Ω_13 H locs h_p0 hF_13 hW hS => ?_)
  have hE : ∀ q : Nat, (q < p0 ∨ p0 + 8 ≤ q) → Ω_13 q = Ω q := fun q g0 => (hF_13 q (by omega)).trans (hE q g0)
  subst hR
  exact W.vret hx hb hr (fun t ht hW9 => ⟨⟨Ω_13, rfl, ⟨h_p0, hE⟩, by rw [oB, ht]; exact hW⟩, hS.F ht⟩) hS.2.2 dX9_logs_53
