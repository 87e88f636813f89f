set_option maxHeartbeats 4000000 in
set_option maxRecDepth 100000 in
theorem c_X1_openGates (l : Launch) (G : Gm) (A : Nat → Prop) (Ω : Om) (p0 : Nat) (p1 : Nat) (p0_0 : Fn) (p0_1 : Fn) (p0_2 : Fn) (p0_3 : Fn) (p1_0 : Blk) (x2 : Int32) (x3 : Int32) (hd_p0_p1 : p0 + 5 ≤ p1 ∨ p1 + 13 ≤ p0) (hB_p1 : BlkInv p1_0) (h_p0 : inDev G Ω p0 p0_0 p0_1 p0_2 p0_3) (h_p1 : inBlk G Ω p1 p1_0) : Met l yX1_openGates (wz yX1_openGates cX1_openGates 5 none) ({ frames := 2, cells := 0, slots := 0, locals := 48 } : Room) (va_Pc [.ref p0, .ref p1, .int x2, .int x3] (oS G A Ω)) (va_Qv (fun (Ω1 : Om) => inDev G Ω1 p0 ((f_X1_openGates p0_0 p0_1 p0_2 p0_3 p1_0 x2 x3).1) ((f_X1_openGates p0_0 p0_1 p0_2 p0_3 p1_0 x2 x3).2.1) ((f_X1_openGates p0_0 p0_1 p0_2 p0_3 p1_0 x2 x3).2.2) p0_3 ∧ (∀ q : Nat, (q < p0 ∨ p0 + 5 ≤ q) → Ω1 q = Ω q)) (oB G A) A) 0 0 A := by
  refine Met.ofW (cc := cX1_openGates) (maxL := 5) (ret := none) (by decide) rfl ?_
  intro p e s m args below meth c s₁ B hml hv
  obtain ⟨rfl, hW, hK, hN, hZ⟩ := hv
  have hx := B.exec
  have hb := B.bytes
  have hr := B.returns
  have hts : ∀ w ∈ gt, w.before _ s = true := fun w hw => atoms_spec (ws := wz yX1_openGates cX1_openGates 5 none) B.pre w (List.mem_cons_of_mem _ hw)
  have hown : s.vm.findClass RX1 = some m.cls := findClass_of_methodNamed B.named
  have hlocks := B.notSynchronized
  have hA : ∀ q, A q → A q := fun _ h => h
  have hS : va_S A s.heap s.heap [] := va_S.rf
  have hS0 := hS
  have hl := lv_entry ([.ref p0, .ref p1, .int x2, .int x3]) (n := 5) (Nat.le_of_ble_eq_true rfl)
  rw [lg_entry_eq]
  generalize (lg_sl ([.ref p0, .ref p1, .int x2, .int x3]) ++ List.replicate (5 - (lg_sl ([.ref p0, .ref p1, .int x2, .int x3])).length) Slot.unset).toArray = ls at hl ⊢
  have hl : lv_has ls 5 [(0, .ref p0), (1, .ref p1), (2, .int x2), (3, .int x3)] := hl
  have hE : ∀ q : Nat, (q < p0 ∨ p0 + 5 ≤ q) → Ω q = Ω q := by intros; rfl
  generalize hR : (f_X1_openGates p0_0 p0_1 p0_2 p0_3 p1_0 x2 x3) = R
  rw [f_X1_openGates] at hR
  refine lv_iconst (v := (0 : Int32)) hx hb dX1_openGates_0 (by decide) ?_
  refine lv_istore (lv' := [(4, .int (0 : Int32)), (0, .ref p0), (1, .ref p1), (2, .int x2), (3, .int x3)]) hx hb dX1_openGates_1 hl (by decide) rfl (fun ls hl => ?_)
  have L3 : ∀ (n_2 : Nat) (x4_1 : Int32) (p0_0_1 : Fn) (p0_1_1 : Fn) (p0_2_1 : Fn) (Ω_3 : Om) (H : Heap) (locs : List Loc), (0 ≤ x4_1.toInt ∧ x4_1.toInt ≤ 6 ∧ 6 - x4_1.toInt < n_2) → inDev G Ω_3 p0 p0_0_1 p0_1_1 p0_2_1 p0_3 → inBlk G Ω_3 p1 p1_0 → (∀ q : Nat, (q < p0 ∨ p0 + 5 ≤ q) → Ω_3 q = Ω q) → oW G A Ω_3 H → va_S A s.heap H locs → ∀ ls : Array Slot, lv_has ls 5 [(0, .ref p0), (1, .ref p1), (2, .int x2), (3, .int x3), (4, .int x4_1)] → (f_X1_openGates_L3 p0_3 p1_0 x2 x3 n_2 x4_1 p0_0_1 p0_1_1 p0_2_1) = R → W p l e (headSpec (wz yX1_openGates cX1_openGates 5 none) ({ frames := 2, cells := 0, slots := 0, locals := 48 } : Room)).room s m ([.ref p0, .ref p1, .int x2, .int x3] : List Value).toArray below meth c H locs 0 0 (MQ below (va_Qv (fun (Ω1 : Om) => inDev G Ω1 p0 (R.1) (R.2.1) (R.2.2) p0_3 ∧ (∀ q : Nat, (q < p0 ∨ p0 + 5 ≤ q) → Ω1 q = Ω q)) (oB G A) A) ([.ref p0, .ref p1, .int x2, .int x3] : List Value).toArray s 0 0 A) (F0 m 3 ls []) := by
    intro n_2
    induction n_2 with
    | zero =>
      intro x4_1 p0_0_1 p0_1_1 p0_2_1 Ω_3 H locs v_3_0 h_p0 h_p1 hE hW hS ls hl hR
      exfalso
      omega
    | succ n_2 ih3 =>
      intro x4_1 p0_0_1 p0_1_1 p0_2_1 Ω_3 H locs v_3_0 h_p0 h_p1 hE hW hS ls hl hR
      rw [f_X1_openGates_L3] at hR
      refine lv_iload hx hb dX1_openGates_3 (lv_at hl 4 rfl) ?_
      refine lv_aload_n hx hb dX1_openGates_5 rfl (lv_at hl 1 rfl) ?_
      refine o_get hx hb hts hown hK hW (inBlk_o h_p1) rfl ig0 0 (by decide) fl_X1_110 rfl dX1_openGates_6 ?_
      try have j_5 : 0 ≤ (p1_0 0 0).toInt ∧ (p1_0 0 0).toInt ≤ 6 := BI_regs (by assumption)
      refine lv_icmp_ge (tgt := 95) hx hb dX1_openGates_9 (by decide) (fun c_4 => ?_) (fun c_4 => ?_)
      · rw [if_pos c_4] at hR
        have i_4 := rle c_4
        subst hR
        exact W.vret hx hb hr (fun t ht hW9 => ⟨⟨Ω_3, rfl, ⟨h_p0, hE⟩, by rw [oB, ht]; exact hW⟩, hS.F ht⟩) hS.2.2 dX1_openGates_95
      · rw [if_neg c_4] at hR
        have i_4 := rnle c_4
        refine lv_aload_n hx hb dX1_openGates_12 rfl (lv_at hl 0 rfl) ?_
        refine o_get hx hb hts hown hK hW (inDev_o h_p0) rfl ig1 1 (by decide) fl_X1_15 rfl dX1_openGates_13 ?_
        refine lv_iload hx hb dX1_openGates_16 (lv_at hl 4 rfl) ?_
        refine o_iald hx hb hK hW (inDev_a1 h_p0) (vp_in_iff.mpr ⟨by omega, by omega⟩) dX1_openGates_18 ?_
        refine lv_bipush (v := (-9 : Int32)) hx hb dX1_openGates_19 (by decide) ?_
        have j_7 : (-9 : Int32).toInt = -9 := by decide
        refine lv_icmp_eq (tgt := 89) hx hb dX1_openGates_21 (by decide) (fun c_6 => ?_) (fun c_6 => ?_)
        · rw [if_pos c_6] at hR
          have i_6 := congrArg Int32.toInt c_6
          refine lv_iinc (v := (x4_1 + (1 : Int32))) (lv' := [(4, .int (x4_1 + (1 : Int32))), (0, .ref p0), (1, .ref p1), (2, .int x2), (3, .int x3)]) hx hb dX1_openGates_89 hl (k := 4) rfl rfl (by decide) rfl (fun ls hl => ?_)
          refine lv_goto (tgt := 3) hx hb dX1_openGates_92 (by decide) ?_
          have j_8 : (1 : Int32).toInt = 1 := by decide
          try have j_9 : (x4_1 + (1 : Int32)).toInt = x4_1.toInt + (1 : Int32).toInt := fb_addI (by omega) (by omega)
          exact ih3 (x4_1 + (1 : Int32)) p0_0_1 p0_1_1 p0_2_1 Ω_3 H locs (by omega) h_p0 h_p1 hE hW hS ls (lv_sub hl [1, 2, 3, 4, 0] rfl) hR
        · rw [if_neg c_6] at hR
          have i_6 := rne c_6
          refine lv_aload_n hx hb dX1_openGates_24 rfl (lv_at hl 1 rfl) ?_
          refine lv_iload hx hb dX1_openGates_25 (lv_at hl 4 rfl) ?_
          refine lv_iload_n hx hb dX1_openGates_27 rfl (lv_at hl 2 rfl) ?_
          refine o_ViR (rest := []) (As := [.int x4_1, .int x2]) (n := 2) hx hb hml hown hts hK hN hZ hW hS hA (c_X0_isOpenedBy l G A Ω_3 p1 p1_0 x4_1 x2 hB_p1 (by omega) h_p1) (inBlk_o h_p1) rfl (good_V ml_X1_113 im_X0_isOpenedBy se_X0_isOpenedBy ini_X0 co_X0_isOpenedBy) (by decide +kernel) ⟨Nat.zero_le _, Nat.zero_le _⟩ hl.1 (Nat.le_of_ble_eq_true rfl) rfl rfl dX1_openGates_28 (fun r H locs hp hW hS => ?_)
          obtain ⟨rfl, hz_10⟩ := hp
          have j_12 : (0 : Int32).toInt = 0 := by decide
          refine lv_if_eq (tgt := 89) hx hb dX1_openGates_31 (by decide) (fun c_11 => ?_) (fun c_11 => ?_)
          · rw [if_pos c_11] at hR
            have i_11 := congrArg Int32.toInt c_11
            refine lv_iinc (v := (x4_1 + (1 : Int32))) (lv' := [(4, .int (x4_1 + (1 : Int32))), (0, .ref p0), (1, .ref p1), (2, .int x2), (3, .int x3)]) hx hb dX1_openGates_89 hl (k := 4) rfl rfl (by decide) rfl (fun ls hl => ?_)
            refine lv_goto (tgt := 3) hx hb dX1_openGates_92 (by decide) ?_
            have j_13 : (1 : Int32).toInt = 1 := by decide
            try have j_14 : (x4_1 + (1 : Int32)).toInt = x4_1.toInt + (1 : Int32).toInt := fb_addI (by omega) (by omega)
            exact ih3 (x4_1 + (1 : Int32)) p0_0_1 p0_1_1 p0_2_1 Ω_3 H locs (by omega) h_p0 h_p1 hE hW hS ls (lv_sub hl [1, 2, 3, 4, 0] rfl) hR
          · rw [if_neg c_11] at hR
            have i_11 := rne c_11
            have b_c_11 := rOB c_11
            have bb_c_11 := BI_flds hB_p1
            refine lv_iload_n hx hb dX1_openGates_34 rfl (lv_at hl 3 rfl) ?_
            refine lv_aload_n hx hb dX1_openGates_35 rfl (lv_at hl 1 rfl) ?_
            refine o_get hx hb hts hown hK hW (inBlk_o h_p1) rfl ig0 8 (by decide) fl_X1_53 rfl dX1_openGates_36 ?_
            refine lv_aload_n hx hb dX1_openGates_39 rfl (lv_at hl 1 rfl) ?_
            refine o_get hx hb hts hown hK hW (inBlk_o h_p1) rfl ig0 5 (by decide) fl_X1_97 rfl dX1_openGates_40 ?_
            refine lv_iload hx hb dX1_openGates_43 (lv_at hl 4 rfl) ?_
            refine o_iald hx hb hK hW (inBlk_a2 h_p1) (vp_in_iff.mpr ⟨by omega, by omega⟩) dX1_openGates_45 ?_
            refine o_iald hx hb hK hW (inBlk_a5 h_p1) (vp_in_iff.mpr ⟨by omega, by omega⟩) dX1_openGates_46 ?_
            refine lv_ishr hx hb dX1_openGates_47 ?_
            refine lv_iconst (v := (1 : Int32)) hx hb dX1_openGates_48 (by decide) ?_
            refine lv_iand hx hb dX1_openGates_49 ?_
            refine lv_if_ne (tgt := 56) hx hb dX1_openGates_50 (by decide) (fun c_15 => ?_) (fun c_15 => ?_)
            · rw [if_neg c_15] at hR
              have i_15 := rne c_15
              refine lv_aload_n hx hb dX1_openGates_56 rfl (lv_at hl 0 rfl) ?_
              refine lv_aload_n hx hb dX1_openGates_57 rfl (lv_at hl 1 rfl) ?_
              refine lv_iload hx hb dX1_openGates_58 (lv_at hl 4 rfl) ?_
              refine o_ViR (rest := []) (As := [.ref p1, .int x4_1]) (n := 2) hx hb hml hown hts hK hN hZ hW hS hA (c_X1_isLocked l G A Ω_3 p0 p1 p0_0_1 p0_1_1 p0_2_1 p0_3 p1_0 x4_1 hB_p1 (by omega) h_p0 h_p1) (inDev_o h_p0) rfl (good_V ml_X1_83 im_X1_isLocked se_X1_isLocked ini_X1 co_X1_isLocked) (by decide +kernel) ⟨Nat.zero_le _, Nat.zero_le _⟩ hl.1 (Nat.le_of_ble_eq_true rfl) rfl rfl dX1_openGates_60 (fun r H locs hp hW hS => ?_)
              obtain ⟨rfl, hz_16⟩ := hp
              have J80 : ∀ (p0_0_17 : Fn) (p0_2_17 : Fn) (Ω_18 : Om) (H : Heap) (locs : List Loc), inDev G Ω_18 p0 p0_0_17 p0_1_1 p0_2_17 p0_3 → inBlk G Ω_18 p1 p1_0 → (∀ q : Nat, (q < p0 ∨ p0 + 5 ≤ q) → Ω_18 q = Ω q) → oW G A Ω_18 H → va_S A s.heap H locs → ∀ ls : Array Slot, lv_has ls 5 [(0, .ref p0), (1, .ref p1), (2, .int x2), (3, .int x3), (4, .int x4_1)] → (f_X1_openGates_J80 p0_1_1 x4_1 (f_X1_openGates_L3 p0_3 p1_0 x2 x3 n_2) p0_0_17 p0_2_17) = R → W p l e (headSpec (wz yX1_openGates cX1_openGates 5 none) ({ frames := 2, cells := 0, slots := 0, locals := 48 } : Room)).room s m ([.ref p0, .ref p1, .int x2, .int x3] : List Value).toArray below meth c H locs 0 0 (MQ below (va_Qv (fun (Ω1 : Om) => inDev G Ω1 p0 (R.1) (R.2.1) (R.2.2) p0_3 ∧ (∀ q : Nat, (q < p0 ∨ p0 + 5 ≤ q) → Ω1 q = Ω q)) (oB G A) A) ([.ref p0, .ref p1, .int x2, .int x3] : List Value).toArray s 0 0 A) (F0 m 80 ls []) := by
                intro p0_0_17 p0_2_17 Ω_18 H locs h_p0 h_p1 hE hW hS ls hl hR
                rw [f_X1_openGates_J80] at hR
                refine lv_aload_n hx hb dX1_openGates_80 rfl (lv_at hl 0 rfl) ?_
                refine o_get hx hb hts hown hK hW (inDev_o h_p0) rfl ig1 1 (by decide) fl_X1_15 rfl dX1_openGates_81 ?_
                refine lv_iload hx hb dX1_openGates_84 (lv_at hl 4 rfl) ?_
                refine lv_bipush (v := (-9 : Int32)) hx hb dX1_openGates_86 (by decide) ?_
                refine wDev_1 hx hb hK hW hS hA h_p0 (vp_in_iff.mpr ⟨by omega, by omega⟩) dX1_openGates_88 (fun Ω_19 H locs h_p0 hF_19 hW hS => ?_)
                have h_p1 := h_p1.keep (fun q h1 h2 => hF_19 q (by omega))
                have hE : ∀ q : Nat, (q < p0 ∨ p0 + 5 ≤ q) → Ω_19 q = Ω q := fun q g0 => (hF_19 q (by omega)).trans (hE q g0)
                refine lv_iinc (v := (x4_1 + (1 : Int32))) (lv' := [(4, .int (x4_1 + (1 : Int32))), (0, .ref p0), (1, .ref p1), (2, .int x2), (3, .int x3)]) hx hb dX1_openGates_89 hl (k := 4) rfl rfl (by decide) rfl (fun ls hl => ?_)
                refine lv_goto (tgt := 3) hx hb dX1_openGates_92 (by decide) ?_
                have j_20 : (1 : Int32).toInt = 1 := by decide
                try have j_21 : (x4_1 + (1 : Int32)).toInt = x4_1.toInt + (1 : Int32).toInt := fb_addI (by omega) (by omega)
                exact ih3 (x4_1 + (1 : Int32)) p0_0_17 (upd p0_1_1 x4_1.toNatClampNeg (-9 : Int32)) p0_2_17 Ω_19 H locs (by omega) h_p0 h_p1 hE hW hS ls (lv_sub hl [1, 2, 3, 4, 0] rfl) hR
              refine lv_if_ne (tgt := 80) hx hb dX1_openGates_63 (by decide) (fun c_22 => ?_) (fun c_22 => ?_)
              · rw [if_neg c_22] at hR
                have i_22 := rne c_22
                exact J80 p0_0_1 p0_2_1 Ω_3 H locs h_p0 h_p1 hE hW hS ls (lv_sub hl [0, 1, 2, 3, 4] rfl) hR
              · rw [if_pos c_22] at hR
                have i_22 := congrArg Int32.toInt c_22
                refine lv_aload_n hx hb dX1_openGates_66 rfl (lv_at hl 0 rfl) ?_
                refine lv_aload_n hx hb dX1_openGates_67 rfl (lv_at hl 1 rfl) ?_
                refine lv_iload hx hb dX1_openGates_68 (lv_at hl 4 rfl) ?_
                refine lv_aload_n hx hb dX1_openGates_70 rfl (lv_at hl 0 rfl) ?_
                refine o_get hx hb hts hown hK hW (inDev_o h_p0) rfl ig1 1 (by decide) fl_X1_15 rfl dX1_openGates_71 ?_
                refine lv_iload hx hb dX1_openGates_74 (lv_at hl 4 rfl) ?_
                refine o_iald hx hb hK hW (inDev_a1 h_p0) (vp_in_iff.mpr ⟨by omega, by omega⟩) dX1_openGates_76 ?_
                refine o_Vv (rest := []) (As := [.ref p1, .int x4_1, .int (p0_1_1 x4_1.toNatClampNeg)]) (n := 3) hx hb hml hown hts hK hN hZ hW hS hA (c_X1_letIn l G A Ω_3 p0 p1 p0_0_1 p0_1_1 p0_2_1 p0_3 p1_0 x4_1 (p0_1_1 x4_1.toNatClampNeg) (by omega) hB_p1 (by omega) h_p0 h_p1) (inDev_o h_p0) rfl (good_V ml_X1_100 im_X1_letIn se_X1_letIn ini_X1 co_X1_letIn) (by decide +kernel) ⟨Nat.zero_le _, Nat.zero_le _⟩ hl.1 (Nat.le_of_ble_eq_true rfl) rfl rfl dX1_openGates_77 (fun Ω_23 H locs hp hW hS => ?_)
                obtain ⟨h_p0, hF_23⟩ := hp
                have h_p1 := h_p1.keep (fun q h1 h2 => hF_23 q (by omega))
                have hE : ∀ q : Nat, (q < p0 ∨ p0 + 5 ≤ q) → Ω_23 q = Ω q := fun q g0 => (hF_23 q (by omega)).trans (hE q g0)
                exact J80 ((f_X1_letIn p0_0_1 p0_2_1 p0_3 p1_0 x4_1 (p0_1_1 x4_1.toNatClampNeg)).1) ((f_X1_letIn p0_0_1 p0_2_1 p0_3 p1_0 x4_1 (p0_1_1 x4_1.toNatClampNeg)).2) Ω_23 H locs h_p0 h_p1 hE hW hS ls (lv_sub hl [0, 1, 2, 3, 4] rfl) hR
            · rw [if_pos c_15] at hR
              have i_15 := congrArg Int32.toInt c_15
              refine lv_goto (tgt := 89) hx hb dX1_openGates_53 (by decide) ?_
              refine lv_iinc (v := (x4_1 + (1 : Int32))) (lv' := [(4, .int (x4_1 + (1 : Int32))), (0, .ref p0), (1, .ref p1), (2, .int x2), (3, .int x3)]) hx hb dX1_openGates_89 hl (k := 4) rfl rfl (by decide) rfl (fun ls hl => ?_)
              refine lv_goto (tgt := 3) hx hb dX1_openGates_92 (by decide) ?_
              have j_24 : (1 : Int32).toInt = 1 := by decide
              try have j_25 : (x4_1 + (1 : Int32)).toInt = x4_1.toInt + (1 : Int32).toInt := fb_addI (by omega) (by omega)
              exact ih3 (x4_1 + (1 : Int32)) p0_0_1 p0_1_1 p0_2_1 Ω_3 H locs (by omega) h_p0 h_p1 hE hW hS ls (lv_sub hl [1, 2, 3, 4, 0] rfl) hR
  have j_26 : (0 : Int32).toInt = 0 := by decide
  exact L3 4000 (0 : Int32) p0_0 p0_1 p0_2 Ω s.heap [] (by omega) h_p0 h_p1 hE hW hS ls (lv_sub hl [1, 2, 3, 4, 0] rfl) hR
set_option maxHeartbeats 4000000 in
set_option maxRecDepth 100000 in
theorem c_X1_write (l : Launch) (G : Gm) (A : Nat → Prop) (Ω : Om) (p0 : Nat) (p1 : Nat) (p0_0 : Fn) (p0_1 : Fn) (p0_2 : Fn) (p0_3 : Fn) (p1_0 : Blk) (x2 : Int32) (x3 : Int32) (hd_p0_p1 : p0 + 5 ≤ p1 ∨ p1 + 13 ≤ p0) (hB_p1 : BlkInv p1_0) (h_p0 : inDev G Ω p0 p0_0 p0_1 p0_2 p0_3) (h_p1 : inBlk G Ω p1 p1_0) : Met l yX1_write (wz yX1_write cX1_write 6 none) ({ frames := 3, cells := 0, slots := 0, locals := 72 } : Room) (va_Pc [.ref p0, .ref p1, .int x2, .int x3] (oS G A Ω)) (va_Qv (fun (Ω1 : Om) => inDev G Ω1 p0 ((f_X1_write p0_0 p0_1 p0_2 p0_3 p1_0 x2 x3).1) ((f_X1_write p0_0 p0_1 p0_2 p0_3 p1_0 x2 x3).2.1) ((f_X1_write p0_0 p0_1 p0_2 p0_3 p1_0 x2 x3).2.2) p0_3 ∧ (∀ q : Nat, (q < p0 ∨ p0 + 5 ≤ q) → Ω1 q = Ω q)) (oB G A) A) 0 0 A := by
  refine Met.ofW (cc := cX1_write) (maxL := 6) (ret := none) (by decide) rfl ?_
  intro p e s m args below meth c s₁ B hml hv
  obtain ⟨rfl, hW, hK, hN, hZ⟩ := hv
  have hx := B.exec
  have hb := B.bytes
  have hr := B.returns
  have hts : ∀ w ∈ gt, w.before _ s = true := fun w hw => atoms_spec (ws := wz yX1_write cX1_write 6 none) B.pre w (List.mem_cons_of_mem _ hw)
  have hown : s.vm.findClass RX1 = some m.cls := findClass_of_methodNamed B.named
  have hlocks := B.notSynchronized
  have hA : ∀ q, A q → A q := fun _ h => h
  have hS : va_S A s.heap s.heap [] := va_S.rf
  have hS0 := hS
  have hl := lv_entry ([.ref p0, .ref p1, .int x2, .int x3]) (n := 6) (Nat.le_of_ble_eq_true rfl)
  rw [lg_entry_eq]
  generalize (lg_sl ([.ref p0, .ref p1, .int x2, .int x3]) ++ List.replicate (6 - (lg_sl ([.ref p0, .ref p1, .int x2, .int x3])).length) Slot.unset).toArray = ls at hl ⊢
  have hl : lv_has ls 6 [(0, .ref p0), (1, .ref p1), (2, .int x2), (3, .int x3)] := hl
  have hE : ∀ q : Nat, (q < p0 ∨ p0 + 5 ≤ q) → Ω q = Ω q := by intros; rfl
  generalize hR : (f_X1_write p0_0 p0_1 p0_2 p0_3 p1_0 x2 x3) = R
  rw [f_X1_write] at hR
  refine lv_aload_n hx hb dX1_write_0 rfl (lv_at hl 1 rfl) ?_
  refine lv_iload_n hx hb dX1_write_1 rfl (lv_at hl 2 rfl) ?_
  refine o_ViR (rest := []) (As := [.int x2]) (n := 1) hx hb hml hown hts hK hN hZ hW hS hA (c_X0_registerBehind l G A Ω p1 p1_0 x2 hB_p1 h_p1) (inBlk_o h_p1) rfl (good_V ml_X1_70 im_X0_registerBehind se_X0_registerBehind ini_X0 co_X0_registerBehind) (by decide +kernel) ⟨Nat.zero_le _, Nat.zero_le _⟩ hl.1 (Nat.le_of_ble_eq_true rfl) rfl rfl dX1_write_2 (fun r H locs hp hW hS => ?_)
  subst hp
  refine lv_istore (lv' := [(4, .int (f_X0_registerBehind p1_0 x2)), (0, .ref p0), (1, .ref p1), (2, .int x2), (3, .int x3)]) hx hb dX1_write_5 hl (by decide) rfl (fun ls hl => ?_)
  refine lv_iload hx hb dX1_write_7 (lv_at hl 0 rfl) ?_
  refine lv_bipush (v := (-9 : Int32)) hx hb dX1_write_9 (by decide) ?_
  try have j_3 : (f_X0_registerBehind p1_0 x2).toInt = -9 ∨ (0 ≤ (f_X0_registerBehind p1_0 x2).toInt ∧ (f_X0_registerBehind p1_0 x2).toInt < 6) := R_registerBehind hB_p1 _
  have j_4 : (-9 : Int32).toInt = -9 := by decide
  refine lv_icmp_eq (tgt := 24) hx hb dX1_write_11 (by decide) (fun c_2 => ?_) (fun c_2 => ?_)
  · rw [if_pos c_2] at hR
    have i_2 := congrArg Int32.toInt c_2
    subst hR
    exact W.vret hx hb hr (fun t ht hW9 => ⟨⟨Ω, rfl, ⟨h_p0, hE⟩, by rw [oB, ht]; exact hW⟩, hS.F ht⟩) hS.2.2 dX1_write_24
  · rw [if_neg c_2] at hR
    have i_2 := rne c_2
    refine lv_aload_n hx hb dX1_write_14 rfl (lv_at hl 1 rfl) ?_
    refine lv_aload_n hx hb dX1_write_15 rfl (lv_at hl 2 rfl) ?_
    refine lv_iload hx hb dX1_write_16 (lv_at hl 0 rfl) ?_
    refine o_ViR (rest := []) (As := [.ref p1, .int (f_X0_registerBehind p1_0 x2)]) (n := 2) hx hb hml hown hts hK hN hZ hW hS hA (c_X1_isLocked l G A Ω p0 p1 p0_0 p0_1 p0_2 p0_3 p1_0 (f_X0_registerBehind p1_0 x2) hB_p1 (by omega) h_p0 h_p1) (inDev_o h_p0) rfl (good_V ml_X1_83 im_X1_isLocked se_X1_isLocked ini_X1 co_X1_isLocked) (by decide +kernel) ⟨Nat.zero_le _, Nat.zero_le _⟩ hl.1 (Nat.le_of_ble_eq_true rfl) rfl rfl dX1_write_18 (fun r H locs hp hW hS => ?_)
    obtain ⟨rfl, hz_5⟩ := hp
    have j_7 : (0 : Int32).toInt = 0 := by decide
    refine lv_if_eq (tgt := 25) hx hb dX1_write_21 (by decide) (fun c_6 => ?_) (fun c_6 => ?_)
    · rw [if_pos c_6] at hR
      have i_6 := congrArg Int32.toInt c_6
      refine lv_aload_n hx hb dX1_write_25 rfl (lv_at hl 2 rfl) ?_
      refine lv_iload_n hx hb dX1_write_26 rfl (lv_at hl 3 rfl) ?_
      refine o_ViR (rest := []) (As := [.int x2]) (n := 1) hx hb hml hown hts hK hN hZ hW hS hA (c_X0_aliasAt l G A Ω p1 p1_0 x2 hB_p1 h_p1) (inBlk_o h_p1) rfl (good_V ml_X1_87 im_X0_aliasAt se_X0_aliasAt ini_X0 co_X0_aliasAt) (by decide +kernel) ⟨Nat.zero_le _, Nat.zero_le _⟩ hl.1 (Nat.le_of_ble_eq_true rfl) rfl rfl dX1_write_27 (fun r H locs hp hW hS => ?_)
      subst hp
      refine lv_istore (lv' := [(5, .int (f_X0_aliasAt p1_0 x2)), (4, .int (f_X0_registerBehind p1_0 x2)), (0, .ref p0), (1, .ref p1), (2, .int x2), (3, .int x3)]) hx hb dX1_write_30 hl (by decide) rfl (fun ls hl => ?_)
      refine lv_iload hx hb dX1_write_32 (lv_at hl 0 rfl) ?_
      refine lv_bipush (v := (-9 : Int32)) hx hb dX1_write_34 (by decide) ?_
      have J89 : ∀ (p0_0_9 : Fn) (p0_2_9 : Fn) (Ω_10 : Om) (H : Heap) (locs : List Loc), inDev G Ω_10 p0 p0_0_9 p0_1 p0_2_9 p0_3 → inBlk G Ω_10 p1 p1_0 → (∀ q : Nat, (q < p0 ∨ p0 + 5 ≤ q) → Ω_10 q = Ω q) → oW G A Ω_10 H → va_S A s.heap H locs → ∀ ls : Array Slot, lv_has ls 6 [(0, .ref p0), (1, .ref p1), (3, .int x3), (4, .int (f_X0_registerBehind p1_0 x2))] → (f_X1_write_J89 p0_1 p0_3 p1_0 x3 (f_X0_registerBehind p1_0 x2) p0_0_9 p0_2_9) = R → W p l e (headSpec (wz yX1_write cX1_write 6 none) ({ frames := 3, cells := 0, slots := 0, locals := 72 } : Room)).room s m ([.ref p0, .ref p1, .int x2, .int x3] : List Value).toArray below meth c H locs 0 0 (MQ below (va_Qv (fun (Ω1 : Om) => inDev G Ω1 p0 (R.1) (R.2.1) (R.2.2) p0_3 ∧ (∀ q : Nat, (q < p0 ∨ p0 + 5 ≤ q) → Ω1 q = Ω q)) (oB G A) A) ([.ref p0, .ref p1, .int x2, .int x3] : List Value).toArray s 0 0 A) (F0 m 89 ls []) := by
        intro p0_0_9 p0_2_9 Ω_10 H locs h_p0 h_p1 hE hW hS ls hl hR
        rw [f_X1_write_J89] at hR
        refine lv_aload_n hx hb dX1_write_89 rfl (lv_at hl 0 rfl) ?_
        refine lv_aload_n hx hb dX1_write_90 rfl (lv_at hl 1 rfl) ?_
        refine lv_iload hx hb dX1_write_91 (lv_at hl 3 rfl) ?_
        refine lv_iload_n hx hb dX1_write_93 rfl (lv_at hl 2 rfl) ?_
        refine o_Vv (rest := []) (As := [.ref p1, .int (f_X0_registerBehind p1_0 x2), .int x3]) (n := 3) hx hb hml hown hts hK hN hZ hW hS hA (c_X1_openGates l G A Ω_10 p0 p1 p0_0_9 p0_1 p0_2_9 p0_3 p1_0 (f_X0_registerBehind p1_0 x2) x3 (by omega) hB_p1 h_p0 h_p1) (inDev_o h_p0) rfl (good_V ml_X1_103 im_X1_openGates se_X1_openGates ini_X1 co_X1_openGates) (by decide +kernel) ⟨Nat.zero_le _, Nat.zero_le _⟩ hl.1 (Nat.le_of_ble_eq_true rfl) rfl rfl dX1_write_94 (fun Ω_11 H locs hp hW hS => ?_)
        obtain ⟨h_p0, hF_11⟩ := hp
        have h_p1 := h_p1.keep (fun q h1 h2 => hF_11 q (by omega))
        have hE : ∀ q : Nat, (q < p0 ∨ p0 + 5 ≤ q) → Ω_11 q = Ω q := fun q g0 => (hF_11 q (by omega)).trans (hE q g0)
        generalize (f_X1_openGates p0_0_9 p0_1 p0_2_9 p0_3 p1_0 (f_X0_registerBehind p1_0 x2) x3) = Z_11 at h_p0 hR
        obtain ⟨z11_0, z11_1, z11_2⟩ := Z_11
        dsimp only at h_p0 hR
        rw [f_X1_write_C97] at hR
        subst hR
        exact W.vret hx hb hr (fun t ht hW9 => ⟨⟨Ω_11, rfl, ⟨h_p0, hE⟩, by rw [oB, ht]; exact hW⟩, hS.F ht⟩) hS.2.2 dX1_write_97
      try have j_13 : (f_X0_aliasAt p1_0 x2).toInt = -9 ∨ (0 ≤ (f_X0_aliasAt p1_0 x2).toInt ∧ (f_X0_aliasAt p1_0 x2).toInt < 4) := R_aliasAt hB_p1 _
      refine lv_icmp_eq (tgt := 57) hx hb dX1_write_36 (by decide) (fun c_12 => ?_) (fun c_12 => ?_)
      · rw [if_pos c_12] at hR
        have i_12 := congrArg Int32.toInt c_12
        refine lv_aload_n hx hb dX1_write_57 rfl (lv_at hl 3 rfl) ?_
        refine o_get hx hb hts hown hK hW (inBlk_o h_p1) rfl ig0 5 (by decide) fl_X1_97 rfl dX1_write_58 ?_
        refine lv_iload hx hb dX1_write_61 (lv_at hl 1 rfl) ?_
        refine o_iald hx hb hK hW (inBlk_a2 h_p1) (vp_in_iff.mpr ⟨by omega, by omega⟩) dX1_write_63 ?_
        refine lv_bipush (v := (-9 : Int32)) hx hb dX1_write_64 (by decide) ?_
        refine lv_icmp_ne (tgt := 80) hx hb dX1_write_66 (by decide) (fun c_14 => ?_) (fun c_14 => ?_)
        · rw [if_neg c_14] at hR
          have i_14 := rne c_14
          refine lv_aload_n hx hb dX1_write_80 rfl (lv_at hl 2 rfl) ?_
          refine o_get hx hb hts hown hK hW (inDev_o h_p0) rfl ig1 1 (by decide) fl_X1_15 rfl dX1_write_81 ?_
          refine lv_iload hx hb dX1_write_84 (lv_at hl 1 rfl) ?_
          refine lv_iload_n hx hb dX1_write_86 rfl (lv_at hl 5 rfl) ?_
          refine wDev_1 hx hb hK hW hS hA h_p0 (vp_in_iff.mpr ⟨by omega, by omega⟩) dX1_write_87 (fun Ω_15 H locs h_p0 hF_15 hW hS => ?_)
          have h_p1 := h_p1.keep (fun q h1 h2 => hF_15 q (by omega))
          have hE : ∀ q : Nat, (q < p0 ∨ p0 + 5 ≤ q) → Ω_15 q = Ω q := fun q g0 => (hF_15 q (by omega)).trans (hE q g0)
          subst hR
          exact W.vret hx hb hr (fun t ht hW9 => ⟨⟨Ω_15, rfl, ⟨h_p0, hE⟩, by rw [oB, ht]; exact hW⟩, hS.F ht⟩) hS.2.2 dX1_write_88
        · rw [if_pos c_14] at hR
          have i_14 := congrArg Int32.toInt c_14
          refine lv_aload_n hx hb dX1_write_69 rfl (lv_at hl 2 rfl) ?_
          refine lv_aload_n hx hb dX1_write_70 rfl (lv_at hl 3 rfl) ?_
          refine lv_iload hx hb dX1_write_71 (lv_at hl 1 rfl) ?_
          refine lv_iload_n hx hb dX1_write_73 rfl (lv_at hl 5 rfl) ?_
          refine o_Vv (rest := []) (As := [.ref p1, .int (f_X0_registerBehind p1_0 x2), .int x3]) (n := 3) hx hb hml hown hts hK hN hZ hW hS hA (c_X1_letIn l G A Ω p0 p1 p0_0 p0_1 p0_2 p0_3 p1_0 (f_X0_registerBehind p1_0 x2) x3 (by omega) hB_p1 (by omega) h_p0 h_p1) (inDev_o h_p0) rfl (good_V ml_X1_100 im_X1_letIn se_X1_letIn ini_X1 co_X1_letIn) (by decide +kernel) ⟨Nat.zero_le _, Nat.zero_le _⟩ hl.1 (Nat.le_of_ble_eq_true rfl) rfl rfl dX1_write_74 (fun Ω_16 H locs hp hW hS => ?_)
          obtain ⟨h_p0, hF_16⟩ := hp
          have h_p1 := h_p1.keep (fun q h1 h2 => hF_16 q (by omega))
          have hE : ∀ q : Nat, (q < p0 ∨ p0 + 5 ≤ q) → Ω_16 q = Ω q := fun q g0 => (hF_16 q (by omega)).trans (hE q g0)
          generalize (f_X1_letIn p0_0 p0_2 p0_3 p1_0 (f_X0_registerBehind p1_0 x2) x3) = Z_16 at h_p0 hR
          obtain ⟨z16_0, z16_1⟩ := Z_16
          dsimp only at h_p0 hR
          rw [f_X1_write_C77] at hR
          refine lv_goto (tgt := 89) hx hb dX1_write_77 (by decide) ?_
          exact J89 z16_0 z16_1 Ω_16 H locs h_p0 h_p1 hE hW hS ls (lv_sub hl [2, 3, 5, 1] rfl) hR
      · rw [if_neg c_12] at hR
        have i_12 := rne c_12
        refine lv_aload_n hx hb dX1_write_39 rfl (lv_at hl 2 rfl) ?_
        refine lv_aload_n hx hb dX1_write_40 rfl (lv_at hl 3 rfl) ?_
        refine lv_iload hx hb dX1_write_41 (lv_at hl 1 rfl) ?_
        refine lv_iload_n hx hb dX1_write_43 rfl (lv_at hl 5 rfl) ?_
        refine lv_aload_n hx hb dX1_write_44 rfl (lv_at hl 3 rfl) ?_
        refine o_get hx hb hts hown hK hW (inBlk_o h_p1) rfl ig0 14 (by decide) fl_X1_90 rfl dX1_write_45 ?_
        refine lv_iload hx hb dX1_write_48 (lv_at hl 0 rfl) ?_
        refine o_iald hx hb hK hW (inBlk_a11 h_p1) (vp_in_iff.mpr ⟨by omega, by omega⟩) dX1_write_50 ?_
        refine o_Vv (rest := []) (As := [.ref p1, .int (f_X0_registerBehind p1_0 x2), .int x3, .int ((p1_0 12) (f_X0_aliasAt p1_0 x2).toNatClampNeg)]) (n := 4) hx hb hml hown hts hK hN hZ hW hS hA (c_X1_letInByAlias l G A Ω p0 p1 p0_0 p0_1 p0_2 p0_3 p1_0 (f_X0_registerBehind p1_0 x2) x3 ((p1_0 12) (f_X0_aliasAt p1_0 x2).toNatClampNeg) (by omega) hB_p1 (by omega) h_p0 h_p1) (inDev_o h_p0) rfl (good_V ml_X1_93 im_X1_letInByAlias se_X1_letInByAlias ini_X1 co_X1_letInByAlias) (by decide +kernel) ⟨Nat.zero_le _, Nat.zero_le _⟩ hl.1 (Nat.le_of_ble_eq_true rfl) rfl rfl dX1_write_51 (fun Ω_17 H locs hp hW hS => ?_)
        obtain ⟨h_p0, hF_17⟩ := hp
        have h_p1 := h_p1.keep (fun q h1 h2 => hF_17 q (by omega))
        have hE : ∀ q : Nat, (q < p0 ∨ p0 + 5 ≤ q) → Ω_17 q = Ω q := fun q g0 => (hF_17 q (by omega)).trans (hE q g0)
        refine lv_goto (tgt := 89) hx hb dX1_write_54 (by decide) ?_
        exact J89 (f_X1_letInByAlias p0_0 p0_2 p0_3 p1_0 (f_X0_registerBehind p1_0 x2) x3 ((p1_0 12) (f_X0_aliasAt p1_0 x2).toNatClampNeg)) p0_2 Ω_17 H locs h_p0 h_p1 hE hW hS ls (lv_sub hl [2, 3, 5, 1] rfl) hR
    · rw [if_neg c_6] at hR
      have i_6 := rne c_6
      subst hR
      exact W.vret hx hb hr (fun t ht hW9 => ⟨⟨Ω, rfl, ⟨h_p0, hE⟩, by rw [oB, ht]; exact hW⟩, hS.F ht⟩) hS.2.2 dX1_write_24
set_option maxHeartbeats 4000000 in
set_option maxRecDepth 100000 in
theorem c_X5_performWrite (l : Launch) (G : Gm) (A : Nat → Prop) (Ω : Om) (p0 : Nat) (p1 : Nat) (p0_0 : Int32) (p0_1 : Int32) (p0d_0 : Fn) (p0d_1 : Fn) (p0d_2 : Fn) (p0d_3 : Fn) (p0m_0 : Fn) (p0m_1 : Fn) (p0m_2 : Fn) (p0m_3 : Fn) (p0j_0 : Int32) (p0j_1 : Fn) (p0j_2 : Fn) (p0j_3 : Fn) (p1_0 : Blk) (x2 : Int32) (x3 : Int32) (hd_p0_p1 : p0 + 15 ≤ p1 ∨ p1 + 13 ≤ p0) (hJ_p0j : 0 ≤ p0j_0.toInt ∧ p0j_0.toInt ≤ 20) (hB_p1 : BlkInv p1_0) (h_p0 : inSitO G Ω p0 p0_0 p0_1) (h_p0d : inDev G Ω (p0 + 1) p0d_0 p0d_1 p0d_2 p0d_3) (h_p0m : inDev G Ω (p0 + 6) p0m_0 p0m_1 p0m_2 p0m_3) (h_p0j : inJou G Ω (p0 + 11) p0j_0 p0j_1 p0j_2 p0j_3) (h_p1 : inBlk G Ω p1 p1_0) : Met l yX5_performWrite (wz yX5_performWrite cX5_performWrite 4 none) ({ frames := 4, cells := 0, slots := 0, locals := 97 } : Room) (va_Pc [.ref p0, .ref p1, .int x2, .int x3] (oS G A Ω)) (va_Qv (fun (Ω1 : Om) => inDev G Ω1 (p0 + 1) ((f_X5_performWrite p0d_0 p0d_1 p0d_2 p0d_3 p0m_0 p0m_1 p0m_2 p0m_3 p0j_0 p0j_1 p0j_2 p0j_3 p1_0 x2 x3).1) ((f_X5_performWrite p0d_0 p0d_1 p0d_2 p0d_3 p0m_0 p0m_1 p0m_2 p0m_3 p0j_0 p0j_1 p0j_2 p0j_3 p1_0 x2 x3).2.1) ((f_X5_performWrite p0d_0 p0d_1 p0d_2 p0d_3 p0m_0 p0m_1 p0m_2 p0m_3 p0j_0 p0j_1 p0j_2 p0j_3 p1_0 x2 x3).2.2.1) p0d_3 ∧ inDev G Ω1 (p0 + 6) ((f_X5_performWrite p0d_0 p0d_1 p0d_2 p0d_3 p0m_0 p0m_1 p0m_2 p0m_3 p0j_0 p0j_1 p0j_2 p0j_3 p1_0 x2 x3).2.2.2.1) ((f_X5_performWrite p0d_0 p0d_1 p0d_2 p0d_3 p0m_0 p0m_1 p0m_2 p0m_3 p0j_0 p0j_1 p0j_2 p0j_3 p1_0 x2 x3).2.2.2.2.1) ((f_X5_performWrite p0d_0 p0d_1 p0d_2 p0d_3 p0m_0 p0m_1 p0m_2 p0m_3 p0j_0 p0j_1 p0j_2 p0j_3 p1_0 x2 x3).2.2.2.2.2.1) p0m_3 ∧ inJou G Ω1 (p0 + 11) ((f_X5_performWrite p0d_0 p0d_1 p0d_2 p0d_3 p0m_0 p0m_1 p0m_2 p0m_3 p0j_0 p0j_1 p0j_2 p0j_3 p1_0 x2 x3).2.2.2.2.2.2.1) ((f_X5_performWrite p0d_0 p0d_1 p0d_2 p0d_3 p0m_0 p0m_1 p0m_2 p0m_3 p0j_0 p0j_1 p0j_2 p0j_3 p1_0 x2 x3).2.2.2.2.2.2.2.1) ((f_X5_performWrite p0d_0 p0d_1 p0d_2 p0d_3 p0m_0 p0m_1 p0m_2 p0m_3 p0j_0 p0j_1 p0j_2 p0j_3 p1_0 x2 x3).2.2.2.2.2.2.2.2.1) ((f_X5_performWrite p0d_0 p0d_1 p0d_2 p0d_3 p0m_0 p0m_1 p0m_2 p0m_3 p0j_0 p0j_1 p0j_2 p0j_3 p1_0 x2 x3).2.2.2.2.2.2.2.2.2) ∧ (∀ q : Nat, (q < (p0 + 1) ∨ (p0 + 1) + 5 ≤ q) → (q < (p0 + 6) ∨ (p0 + 6) + 5 ≤ q) → (q < (p0 + 11) ∨ (p0 + 11) + 4 ≤ q) → Ω1 q = Ω q)) (oB G A) A) 0 0 A := by
  refine Met.ofW (cc := cX5_performWrite) (maxL := 4) (ret := none) (by decide) rfl ?_
  intro p e s m args below meth c s₁ B hml hv
  obtain ⟨rfl, hW, hK, hN, hZ⟩ := hv
  have hx := B.exec
  have hb := B.bytes
  have hr := B.returns
  have hts : ∀ w ∈ gt, w.before _ s = true := fun w hw => atoms_spec (ws := wz yX5_performWrite cX5_performWrite 4 none) B.pre w (List.mem_cons_of_mem _ hw)
  have hown : s.vm.findClass RX5 = some m.cls := findClass_of_methodNamed B.named
  have hlocks := B.notSynchronized
  have hA : ∀ q, A q → A q := fun _ h => h
  have hS : va_S A s.heap s.heap [] := va_S.rf
  have hS0 := hS
  have hl := lv_entry ([.ref p0, .ref p1, .int x2, .int x3]) (n := 4) (Nat.le_of_ble_eq_true rfl)
  rw [lg_entry_eq]
  generalize (lg_sl ([.ref p0, .ref p1, .int x2, .int x3]) ++ List.replicate (4 - (lg_sl ([.ref p0, .ref p1, .int x2, .int x3])).length) Slot.unset).toArray = ls at hl ⊢
  have hl : lv_has ls 4 [(0, .ref p0), (1, .ref p1), (2, .int x2), (3, .int x3)] := hl
  have hE : ∀ q : Nat, (q < (p0 + 1) ∨ (p0 + 1) + 5 ≤ q) → (q < (p0 + 6) ∨ (p0 + 6) + 5 ≤ q) → (q < (p0 + 11) ∨ (p0 + 11) + 4 ≤ q) → Ω q = Ω q := by intros; rfl
  generalize hR : (f_X5_performWrite p0d_0 p0d_1 p0d_2 p0d_3 p0m_0 p0m_1 p0m_2 p0m_3 p0j_0 p0j_1 p0j_2 p0j_3 p1_0 x2 x3) = R
  rw [f_X5_performWrite] at hR
  refine lv_aload_n hx hb dX5_performWrite_0 rfl (lv_at hl 0 rfl) ?_
  refine o_get hx hb hts hown hK hW (inSitO_o h_p0) rfl ig5 0 (by decide) fl_X5_12 rfl dX5_performWrite_1 ?_
  refine lv_aload_n hx hb dX5_performWrite_4 rfl (lv_at hl 1 rfl) ?_
  refine lv_iload_n hx hb dX5_performWrite_5 rfl (lv_at hl 2 rfl) ?_
  refine lv_iload_n hx hb dX5_performWrite_6 rfl (lv_at hl 3 rfl) ?_
  refine o_Vv (rest := []) (As := [.ref p1, .int x2, .int x3]) (n := 3) hx hb hml hown hts hK hN hZ hW hS hA (c_X1_write l G A Ω (p0 + 1) p1 p0d_0 p0d_1 p0d_2 p0d_3 p1_0 x2 x3 (by omega) hB_p1 h_p0d h_p1) (inDev_o h_p0d) rfl (good_V ml_X5_68 im_X1_write se_X1_write ini_X1 co_X1_write) (by decide +kernel) ⟨Nat.zero_le _, Nat.zero_le _⟩ hl.1 (Nat.le_of_ble_eq_true rfl) rfl rfl dX5_performWrite_7 (fun Ω_1 H locs hp hW hS => ?_)
  obtain ⟨h_p0d, hF_1⟩ := hp
  have h_p0 := h_p0.keep (fun q h1 h2 => hF_1 q (by omega))
  have h_p0m := h_p0m.keep (fun q h1 h2 => hF_1 q (by omega))
  have h_p0j := h_p0j.keep (fun q h1 h2 => hF_1 q (by omega))
  have h_p1 := h_p1.keep (fun q h1 h2 => hF_1 q (by omega))
  have hE : ∀ q : Nat, (q < (p0 + 1) ∨ (p0 + 1) + 5 ≤ q) → (q < (p0 + 6) ∨ (p0 + 6) + 5 ≤ q) → (q < (p0 + 11) ∨ (p0 + 11) + 4 ≤ q) → Ω_1 q = Ω q := fun q g0 g1 g2 => (hF_1 q (by omega)).trans (hE q g0 g1 g2)
  generalize (f_X1_write p0d_0 p0d_1 p0d_2 p0d_3 p1_0 x2 x3) = Z_1 at h_p0d hR
  obtain ⟨z1_0, z1_1, z1_2⟩ := Z_1
  dsimp only at h_p0d hR
  rw [f_X5_performWrite_C10] at hR
  refine lv_aload_n hx hb dX5_performWrite_10 rfl (lv_at hl 0 rfl) ?_
  refine o_get hx hb hts hown hK hW (inSitO_o h_p0) rfl ig5 1 (by decide) fl_X5_18 rfl dX5_performWrite_11 ?_
  refine lv_aload_n hx hb dX5_performWrite_14 rfl (lv_at hl 1 rfl) ?_
  refine lv_iload_n hx hb dX5_performWrite_15 rfl (lv_at hl 2 rfl) ?_
  refine lv_iload_n hx hb dX5_performWrite_16 rfl (lv_at hl 3 rfl) ?_
  refine o_Vv (rest := []) (As := [.ref p1, .int x2, .int x3]) (n := 3) hx hb hml hown hts hK hN hZ hW hS hA (c_X1_write l G A Ω_1 (p0 + 6) p1 p0m_0 p0m_1 p0m_2 p0m_3 p1_0 x2 x3 (by omega) hB_p1 h_p0m h_p1) (inDev_o h_p0m) rfl (good_V ml_X5_68 im_X1_write se_X1_write ini_X1 co_X1_write) (by decide +kernel) ⟨Nat.zero_le _, Nat.zero_le _⟩ hl.1 (Nat.le_of_ble_eq_true rfl) rfl rfl dX5_performWrite_17 (fun Ω_2 H locs hp hW hS => ?_)
  obtain ⟨h_p0m, hF_2⟩ := hp
  have h_p0 := h_p0.keep (fun q h1 h2 => hF_2 q (by omega))
  have h_p0d := h_p0d.keep (fun q h1 h2 => hF_2 q (by omega))
  have h_p0j := h_p0j.keep (fun q h1 h2 => hF_2 q (by omega))
  have h_p1 := h_p1.keep (fun q h1 h2 => hF_2 q (by omega))
  have hE : ∀ q : Nat, (q < (p0 + 1) ∨ (p0 + 1) + 5 ≤ q) → (q < (p0 + 6) ∨ (p0 + 6) + 5 ≤ q) → (q < (p0 + 11) ∨ (p0 + 11) + 4 ≤ q) → Ω_2 q = Ω q := fun q g0 g1 g2 => (hF_2 q (by omega)).trans (hE q g0 g1 g2)
  generalize (f_X1_write p0m_0 p0m_1 p0m_2 p0m_3 p1_0 x2 x3) = Z_2 at h_p0m hR
  obtain ⟨z2_0, z2_1, z2_2⟩ := Z_2
  dsimp only at h_p0m hR
  rw [f_X5_performWrite_C20] at hR
  refine lv_aload_n hx hb dX5_performWrite_20 rfl (lv_at hl 0 rfl) ?_
  refine o_get hx hb hts hown hK hW (inSitO_o h_p0) rfl ig5 2 (by decide) fl_X5_24 rfl dX5_performWrite_21 ?_
  refine lv_iload_n hx hb dX5_performWrite_24 rfl (lv_at hl 2 rfl) ?_
  refine lv_iconst (v := (1 : Int32)) hx hb dX5_performWrite_25 (by decide) ?_
  refine lv_iload_n hx hb dX5_performWrite_26 rfl (lv_at hl 3 rfl) ?_
  have j_3 : (1 : Int32).toInt = 1 := by decide
  refine o_Vv (rest := []) (As := [.int x2, .int (1 : Int32), .int x3]) (n := 3) hx hb hml hown hts hK hN hZ hW hS hA (c_X3_append l G A Ω_2 (p0 + 11) p0j_0 p0j_1 p0j_2 p0j_3 x2 (1 : Int32) x3 (by omega) h_p0j) (inJou_o h_p0j) rfl (good_V ml_X5_64 im_X3_append se_X3_append ini_X3 co_X3_append) (by decide +kernel) ⟨Nat.zero_le _, Nat.zero_le _⟩ hl.1 (Nat.le_of_ble_eq_true rfl) rfl rfl dX5_performWrite_27 (fun Ω_4 H locs hp hW hS => ?_)
  obtain ⟨h_p0j, hF_4⟩ := hp
  have h_p0 := h_p0.keep (fun q h1 h2 => hF_4 q (by omega))
  have h_p0d := h_p0d.keep (fun q h1 h2 => hF_4 q (by omega))
  have h_p0m := h_p0m.keep (fun q h1 h2 => hF_4 q (by omega))
  have h_p1 := h_p1.keep (fun q h1 h2 => hF_4 q (by omega))
  have hE : ∀ q : Nat, (q < (p0 + 1) ∨ (p0 + 1) + 5 ≤ q) → (q < (p0 + 6) ∨ (p0 + 6) + 5 ≤ q) → (q < (p0 + 11) ∨ (p0 + 11) + 4 ≤ q) → Ω_4 q = Ω q := fun q g0 g1 g2 => (hF_4 q (by omega)).trans (hE q g0 g1 g2)
  generalize (f_X3_append p0j_0 p0j_1 p0j_2 p0j_3 x2 (1 : Int32) x3) = Z_4 at h_p0j hR
  obtain ⟨z4_0, z4_1, z4_2, z4_3⟩ := Z_4
  dsimp only at h_p0j hR
  rw [f_X5_performWrite_C30] at hR
  subst hR
  exact W.vret hx hb hr (fun t ht hW9 => ⟨⟨Ω_4, rfl, ⟨h_p0d, h_p0m, h_p0j, hE⟩, by rw [oB, ht]; exact hW⟩, hS.F ht⟩) hS.2.2 dX5_performWrite_30
set_option maxHeartbeats 4000000 in
set_option maxRecDepth 100000 in
theorem c_X0_greatestValue (l : Launch) (G : Gm) (A : Nat → Prop) (Ω : Om) (p0 : Nat) (p0_0 : Blk) (x1 : Int32) (hB_p0 : BlkInv p0_0) (hi_x1 : 0 ≤ x1.toInt ∧ x1.toInt < 12) (h_p0 : inBlk G Ω p0 p0_0) : Met l yX0_greatestValue (wz yX0_greatestValue cX0_greatestValue 2 (some .int)) ({ frames := 0, cells := 0, slots := 0, locals := 0 } : Room) (va_Pc [.ref p0, .int x1] (oS G A Ω)) (va_Qi (fun (r : Int32) (Ω1 : Om) => r = (f_X0_greatestValue p0_0 x1) ∧ Ω1 = Ω) (oB G A) A) 0 0 A := by
  refine Met.ofW (cc := cX0_greatestValue) (maxL := 2) (ret := (some .int)) (by decide) rfl ?_
  intro p e s m args below meth c s₁ B hml hv
  obtain ⟨rfl, hW, hK, hN, hZ⟩ := hv
  have hx := B.exec
  have hb := B.bytes
  have hr := B.returns
  have hts : ∀ w ∈ gt, w.before _ s = true := fun w hw => atoms_spec (ws := wz yX0_greatestValue cX0_greatestValue 2 (some .int)) B.pre w (List.mem_cons_of_mem _ hw)
  have hown : s.vm.findClass RX0 = some m.cls := findClass_of_methodNamed B.named
  have hlocks := B.notSynchronized
  have hA : ∀ q, A q → A q := fun _ h => h
  have hS : va_S A s.heap s.heap [] := va_S.rf
  have hS0 := hS
  have hl := lv_entry ([.ref p0, .int x1]) (n := 2) (Nat.le_of_ble_eq_true rfl)
  rw [lg_entry_eq]
  generalize (lg_sl ([.ref p0, .int x1]) ++ List.replicate (2 - (lg_sl ([.ref p0, .int x1])).length) Slot.unset).toArray = ls at hl ⊢
  have hl : lv_has ls 2 [(0, .ref p0), (1, .int x1)] := hl
  generalize hR : (f_X0_greatestValue p0_0 x1) = R
  rw [f_X0_greatestValue] at hR
  refine lv_aload_n hx hb dX0_greatestValue_0 rfl (lv_at hl 0 rfl) ?_
  refine o_get hx hb hts hown hK hW (inBlk_o h_p0) rfl ig0 10 (by decide) fl_X0_33 rfl dX0_greatestValue_1 ?_
  refine lv_iload_n hx hb dX0_greatestValue_4 rfl (lv_at hl 1 rfl) ?_
  refine o_iald hx hb hK hW (inBlk_a7 h_p0) (vp_in_iff.mpr ⟨by omega, by omega⟩) dX0_greatestValue_5 ?_
  refine lv_aload_n hx hb dX0_greatestValue_6 rfl (lv_at hl 0 rfl) ?_
  refine o_get hx hb hts hown hK hW (inBlk_o h_p0) rfl ig0 8 (by decide) fl_X0_27 rfl dX0_greatestValue_7 ?_
  refine lv_iload_n hx hb dX0_greatestValue_10 rfl (lv_at hl 1 rfl) ?_
  refine o_iald hx hb hK hW (inBlk_a5 h_p0) (vp_in_iff.mpr ⟨by omega, by omega⟩) dX0_greatestValue_11 ?_
  refine lv_ishr hx hb dX0_greatestValue_12 ?_
  subst hR
  exact W.iret (v := (((p0_0 8) x1.toNatClampNeg) >>> (((p0_0 6) x1.toNatClampNeg) &&& 31))) hx hb hr (fun t ht hW9 => ⟨⟨(((p0_0 8) x1.toNatClampNeg) >>> (((p0_0 6) x1.toNatClampNeg) &&& 31)), Ω, rfl, ⟨rfl, rfl⟩, by rw [oB, ht]; exact hW⟩, hS.F ht⟩) hS.2.2 dX0_greatestValue_13
set_option maxHeartbeats 4000000 in
set_option maxRecDepth 100000 in
theorem c_X0_canHold (l : Launch) (G : Gm) (A : Nat → Prop) (Ω : Om) (p0 : Nat) (p0_0 : Blk) (x1 : Int32) (x2 : Int32) (hB_p0 : BlkInv p0_0) (h_p0 : inBlk G Ω p0 p0_0) : Met l yX0_canHold (wz yX0_canHold cX0_canHold 3 (some .boolean)) ({ frames := 1, cells := 0, slots := 0, locals := 21 } : Room) (va_Pc [.ref p0, .int x1, .int x2] (oS G A Ω)) (va_Qi (fun (r : Int32) (Ω1 : Om) => (r = (f_X0_canHold p0_0 x1 x2) ∧ (r = 0 ∨ r = 1)) ∧ Ω1 = Ω) (oB G A) A) 0 0 A := by
  refine Met.ofW (cc := cX0_canHold) (maxL := 3) (ret := (some .boolean)) (by decide) rfl ?_
  intro p e s m args below meth c s₁ B hml hv
  obtain ⟨rfl, hW, hK, hN, hZ⟩ := hv
  have hx := B.exec
  have hb := B.bytes
  have hr := B.returns
  have hts : ∀ w ∈ gt, w.before _ s = true := fun w hw => atoms_spec (ws := wz yX0_canHold cX0_canHold 3 (some .boolean)) B.pre w (List.mem_cons_of_mem _ hw)
  have hown : s.vm.findClass RX0 = some m.cls := findClass_of_methodNamed B.named
  have hlocks := B.notSynchronized
  have hA : ∀ q, A q → A q := fun _ h => h
  have hS : va_S A s.heap s.heap [] := va_S.rf
  have hS0 := hS
  have hl := lv_entry ([.ref p0, .int x1, .int x2]) (n := 3) (Nat.le_of_ble_eq_true rfl)
  rw [lg_entry_eq]
  generalize (lg_sl ([.ref p0, .int x1, .int x2]) ++ List.replicate (3 - (lg_sl ([.ref p0, .int x1, .int x2])).length) Slot.unset).toArray = ls at hl ⊢
  have hl : lv_has ls 3 [(0, .ref p0), (1, .int x1), (2, .int x2)] := hl
  generalize hR : (f_X0_canHold p0_0 x1 x2) = R
  rw [f_X0_canHold] at hR
  refine lv_iload_n hx hb dX0_canHold_0 rfl (lv_at hl 1 rfl) ?_
  refine lv_aload_n hx hb dX0_canHold_1 rfl (lv_at hl 0 rfl) ?_
  refine o_get hx hb hts hown hK hW (inBlk_o h_p0) rfl ig0 1 (by decide) fl_X0_52 rfl dX0_canHold_2 ?_
  try have j_1 : 0 ≤ (p0_0 0 1).toInt ∧ (p0_0 0 1).toInt ≤ 12 := BI_flds (by assumption)
  refine o_SNiR (rest := []) (As := [.int x1, .int (p0_0 0 1)]) (n := 2) hx hb hml hown hts hK hN hZ hW hS hA (c_X8_isWithin l G A Ω x1 (p0_0 0 1)) (List.mem_of_getElem? (i := 9) rfl) st_X8_isWithin ini_X8 co_X8_isWithin (by decide +kernel) ⟨Nat.zero_le _, Nat.zero_le _⟩ hl.1 (Nat.le_of_ble_eq_true rfl) rfl rfl dX0_canHold_5 (fun r H locs hp hW hS => ?_)
  obtain ⟨rfl, hz_2⟩ := hp
  have j_4 : (0 : Int32).toInt = 0 := by decide
  refine lv_if_eq (tgt := 28) hx hb dX0_canHold_8 (by decide) (fun c_3 => ?_) (fun c_3 => ?_)
  · rw [if_pos c_3] at hR
    have i_3 := congrArg Int32.toInt c_3
    refine lv_iconst (v := (0 : Int32)) hx hb dX0_canHold_28 (by decide) ?_
    subst hR
    exact W.zret (v := (0 : Int32)) hx hb hr (nb01 (Or.inl rfl)) (fun t ht hW9 => ⟨⟨(0 : Int32), Ω, rfl, ⟨⟨rfl, (Or.inl rfl)⟩, rfl⟩, by rw [oB, ht]; exact hW⟩, hS.F ht⟩) hS.2.2 dX0_canHold_29
  · rw [if_neg c_3] at hR
    have i_3 := rne c_3
    have b_c_3 := rIW c_3
    refine lv_iload_n hx hb dX0_canHold_11 rfl (lv_at hl 2 rfl) ?_
    refine lv_if_lt (tgt := 28) hx hb dX0_canHold_12 (by decide) (fun c_5 => ?_) (fun c_5 => ?_)
    · rw [if_pos c_5] at hR
      have i_5 := rlt c_5
      refine lv_iconst (v := (0 : Int32)) hx hb dX0_canHold_28 (by decide) ?_
      subst hR
      exact W.zret (v := (0 : Int32)) hx hb hr (nb01 (Or.inl rfl)) (fun t ht hW9 => ⟨⟨(0 : Int32), Ω, rfl, ⟨⟨rfl, (Or.inl rfl)⟩, rfl⟩, by rw [oB, ht]; exact hW⟩, hS.F ht⟩) hS.2.2 dX0_canHold_29
    · rw [if_neg c_5] at hR
      have i_5 := rnlt c_5
      refine lv_iload_n hx hb dX0_canHold_15 rfl (lv_at hl 2 rfl) ?_
      refine lv_aload_n hx hb dX0_canHold_16 rfl (lv_at hl 0 rfl) ?_
      refine lv_iload_n hx hb dX0_canHold_17 rfl (lv_at hl 1 rfl) ?_
      refine o_ViR (rest := [.int x2]) (As := [.int x1]) (n := 1) hx hb hml hown hts hK hN hZ hW hS hA (c_X0_greatestValue l G A Ω p0 p0_0 x1 hB_p0 (by omega) h_p0) (inBlk_o h_p0) rfl (good_V ml_X0_62 im_X0_greatestValue se_X0_greatestValue ini_X0 co_X0_greatestValue) (by decide +kernel) ⟨Nat.zero_le _, Nat.zero_le _⟩ hl.1 (Nat.le_of_ble_eq_true rfl) rfl rfl dX0_canHold_18 (fun r H locs hp hW hS => ?_)
      subst hp
      refine lv_icmp_gt (tgt := 28) hx hb dX0_canHold_21 (by decide) (fun c_7 => ?_) (fun c_7 => ?_)
      · rw [if_pos c_7] at hR
        have i_7 := rlt c_7
        refine lv_iconst (v := (0 : Int32)) hx hb dX0_canHold_28 (by decide) ?_
        subst hR
        exact W.zret (v := (0 : Int32)) hx hb hr (nb01 (Or.inl rfl)) (fun t ht hW9 => ⟨⟨(0 : Int32), Ω, rfl, ⟨⟨rfl, (Or.inl rfl)⟩, rfl⟩, by rw [oB, ht]; exact hW⟩, hS.F ht⟩) hS.2.2 dX0_canHold_29
      · rw [if_neg c_7] at hR
        have i_7 := rnlt c_7
        refine lv_iconst (v := (1 : Int32)) hx hb dX0_canHold_24 (by decide) ?_
        refine lv_goto (tgt := 29) hx hb dX0_canHold_25 (by decide) ?_
        subst hR
        exact W.zret (v := (1 : Int32)) hx hb hr (nb01 (Or.inr rfl)) (fun t ht hW9 => ⟨⟨(1 : Int32), Ω, rfl, ⟨⟨rfl, (Or.inr rfl)⟩, rfl⟩, by rw [oB, ht]; exact hW⟩, hS.F ht⟩) hS.2.2 dX0_canHold_29
set_option maxHeartbeats 4000000 in
set_option maxRecDepth 100000 in
theorem c_X1_mend (l : Launch) (G : Gm) (A : Nat → Prop) (Ω : Om) (p0 : Nat) (p1 : Nat) (p0_0 : Fn) (p0_1 : Fn) (p0_2 : Fn) (p0_3 : Fn) (p1_0 : Blk) (hd_p0_p1 : p0 + 5 ≤ p1 ∨ p1 + 13 ≤ p0) (hB_p1 : BlkInv p1_0) (h_p0 : inDev G Ω p0 p0_0 p0_1 p0_2 p0_3) (h_p1 : inBlk G Ω p1 p1_0) : Met l yX1_mend (wz yX1_mend cX1_mend 2 none) ({ frames := 1, cells := 0, slots := 0, locals := 60 } : Room) (va_Pc [.ref p0, .ref p1] (oS G A Ω)) (va_Qv (fun (Ω1 : Om) => inDev G Ω1 p0 p0_0 p0_1 p0_2 ((f_X1_mend p0_3 p1_0)) ∧ (∀ q : Nat, (q < p0 ∨ p0 + 5 ≤ q) → Ω1 q = Ω q)) (oB G A) A) 0 0 A := by
  refine Met.ofW (cc := cX1_mend) (maxL := 2) (ret := none) (by decide) rfl ?_
  intro p e s m args below meth c s₁ B hml hv
  obtain ⟨rfl, hW, hK, hN, hZ⟩ := hv
  have hx := B.exec
  have hb := B.bytes
  have hr := B.returns
  have hts : ∀ w ∈ gt, w.before _ s = true := fun w hw => atoms_spec (ws := wz yX1_mend cX1_mend 2 none) B.pre w (List.mem_cons_of_mem _ hw)
  have hown : s.vm.findClass RX1 = some m.cls := findClass_of_methodNamed B.named
  have hlocks := B.notSynchronized
  have hA : ∀ q, A q → A q := fun _ h => h
  have hS : va_S A s.heap s.heap [] := va_S.rf
  have hS0 := hS
  have hl := lv_entry ([.ref p0, .ref p1]) (n := 2) (Nat.le_of_ble_eq_true rfl)
  rw [lg_entry_eq]
  generalize (lg_sl ([.ref p0, .ref p1]) ++ List.replicate (2 - (lg_sl ([.ref p0, .ref p1])).length) Slot.unset).toArray = ls at hl ⊢
  have hl : lv_has ls 2 [(0, .ref p0), (1, .ref p1)] := hl
  have hE : ∀ q : Nat, (q < p0 ∨ p0 + 5 ≤ q) → Ω q = Ω q := by intros; rfl
  generalize hR : (f_X1_mend p0_3 p1_0) = R
  rw [f_X1_mend] at hR
  refine lv_aload_n hx hb dX1_mend_0 rfl (lv_at hl 1 rfl) ?_
  refine o_get hx hb hts hown hK hW (inBlk_o h_p1) rfl ig0 7 (by decide) fl_X1_31 rfl dX1_mend_1 ?_
  refine lv_iconst (v := (0 : Int32)) hx hb dX1_mend_4 (by decide) ?_
  refine lv_aload_n hx hb dX1_mend_5 rfl (lv_at hl 0 rfl) ?_
  refine o_get hx hb hts hown hK hW (inDev_o h_p0) rfl ig1 3 (by decide) fl_X1_22 rfl dX1_mend_6 ?_
  refine lv_iconst (v := (0 : Int32)) hx hb dX1_mend_9 (by decide) ?_
  refine lv_bipush (v := (12 : Int32)) hx hb dX1_mend_10 (by decide) ?_
  refine wcDev_3 hx hb (hml.trans hl.1.symm) hown hts ma_X1_25 hK hW hS hA (inBlk_a4 h_p1) (by decide) h_p0 (Nat.le_of_ble_eq_true rfl) (Nat.le_of_ble_eq_true rfl) dX1_mend_12 (fun Ω_1 H locs h_p0 hF_1 hW hS => ?_)
  have h_p1 := h_p1.keep (fun q h1 h2 => hF_1 q (by omega))
  have hE : ∀ q : Nat, (q < p0 ∨ p0 + 5 ≤ q) → Ω_1 q = Ω q := fun q g0 => (hF_1 q (by omega)).trans (hE q g0)
  subst hR
  exact W.vret hx hb hr (fun t ht hW9 => ⟨⟨Ω_1, rfl, ⟨h_p0, hE⟩, by rw [oB, ht]; exact hW⟩, hS.F ht⟩) hS.2.2 dX1_mend_15
set_option maxHeartbeats 4000000 in
set_option maxRecDepth 100000 in
theorem c_X3_agreesWith (l : Launch) (G : Gm) (A : Nat → Prop) (Ω : Om) (p0 : Nat) (p1 : Nat) (p2 : Nat) (p0_0 : Int32) (p0_1 : Fn) (p0_2 : Fn) (p0_3 : Fn) (p1_0 : Fn) (p1_1 : Fn) (p1_2 : Fn) (p1_3 : Fn) (p2_0 : Blk) (hd_p0_p1 : p0 + 4 ≤ p1 ∨ p1 + 5 ≤ p0) (hd_p0_p2 : p0 + 4 ≤ p2 ∨ p2 + 13 ≤ p0) (hd_p1_p2 : p1 + 5 ≤ p2 ∨ p2 + 13 ≤ p1) (hJ_p0 : 0 ≤ p0_0.toInt ∧ p0_0.toInt ≤ 20) (hB_p2 : BlkInv p2_0) (h_p0 : inJou G Ω p0 p0_0 p0_1 p0_2 p0_3) (h_p1 : inDev G Ω p1 p1_0 p1_1 p1_2 p1_3) (h_p2 : inBlk G Ω p2 p2_0) : Met l yX3_agreesWith (wz yX3_agreesWith cX3_agreesWith 4 (some .boolean)) ({ frames := 5, cells := 0, slots := 0, locals := 114 } : Room) (va_Pc [.ref p0, .ref p1, .ref p2] (oS G A Ω)) (va_Qi (fun (r : Int32) (Ω1 : Om) => r = (f_X3_agreesWith p0_0 p0_1 p0_2 p0_3 p1_0 p1_1 p1_2 p1_3 p2_0).1 ∧ (r = 0 ∨ r = 1) ∧ inDev G Ω1 p1 ((f_X3_agreesWith p0_0 p0_1 p0_2 p0_3 p1_0 p1_1 p1_2 p1_3 p2_0).2.1) ((f_X3_agreesWith p0_0 p0_1 p0_2 p0_3 p1_0 p1_1 p1_2 p1_3 p2_0).2.2.1) ((f_X3_agreesWith p0_0 p0_1 p0_2 p0_3 p1_0 p1_1 p1_2 p1_3 p2_0).2.2.2) p1_3 ∧ (∀ q : Nat, (q < p1 ∨ p1 + 5 ≤ q) → Ω1 q = Ω q)) (oB G A) A) 0 0 A := by
  refine Met.ofW (cc := cX3_agreesWith) (maxL := 4) (ret := (some .boolean)) (by decide) rfl ?_
  intro p e s m args below meth c s₁ B hml hv
  obtain ⟨rfl, hW, hK, hN, hZ⟩ := hv
  have hx := B.exec
  have hb := B.bytes
  have hr := B.returns
  have hts : ∀ w ∈ gt, w.before _ s = true := fun w hw => atoms_spec (ws := wz yX3_agreesWith cX3_agreesWith 4 (some .boolean)) B.pre w (List.mem_cons_of_mem _ hw)
  have hown : s.vm.findClass RX3 = some m.cls := findClass_of_methodNamed B.named
  have hlocks := B.notSynchronized
  have hA : ∀ q, A q → A q := fun _ h => h
  have hS : va_S A s.heap s.heap [] := va_S.rf
  have hS0 := hS
  have hl := lv_entry ([.ref p0, .ref p1, .ref p2]) (n := 4) (Nat.le_of_ble_eq_true rfl)
  rw [lg_entry_eq]
  generalize (lg_sl ([.ref p0, .ref p1, .ref p2]) ++ List.replicate (4 - (lg_sl ([.ref p0, .ref p1, .ref p2])).length) Slot.unset).toArray = ls at hl ⊢
  have hl : lv_has ls 4 [(0, .ref p0), (1, .ref p1), (2, .ref p2)] := hl
  have hE : ∀ q : Nat, (q < p1 ∨ p1 + 5 ≤ q) → Ω q = Ω q := by intros; rfl
  generalize hR : (f_X3_agreesWith p0_0 p0_1 p0_2 p0_3 p1_0 p1_1 p1_2 p1_3 p2_0) = R
  rw [f_X3_agreesWith] at hR
  refine lv_iconst (v := (0 : Int32)) hx hb dX3_agreesWith_0 (by decide) ?_
  refine lv_istore_n (lv' := [(3, .int (0 : Int32)), (0, .ref p0), (1, .ref p1), (2, .ref p2)]) hx hb dX3_agreesWith_1 rfl hl (by decide) rfl (fun ls hl => ?_)
  have L2 : ∀ (n_2 : Nat) (x3_1 : Int32) (p1_0_1 : Fn) (p1_1_1 : Fn) (p1_2_1 : Fn) (Ω_3 : Om) (H : Heap) (locs : List Loc), (0 ≤ x3_1.toInt ∧ x3_1.toInt ≤ 20 ∧ 20 - x3_1.toInt < n_2) → inJou G Ω_3 p0 p0_0 p0_1 p0_2 p0_3 → inDev G Ω_3 p1 p1_0_1 p1_1_1 p1_2_1 p1_3 → inBlk G Ω_3 p2 p2_0 → (∀ q : Nat, (q < p1 ∨ p1 + 5 ≤ q) → Ω_3 q = Ω q) → oW G A Ω_3 H → va_S A s.heap H locs → ∀ ls : Array Slot, lv_has ls 4 [(0, .ref p0), (1, .ref p1), (2, .ref p2), (3, .int x3_1)] → (f_X3_agreesWith_L2 p0_0 p0_1 p0_2 p0_3 p1_3 p2_0 n_2 x3_1 p1_0_1 p1_1_1 p1_2_1) = R → W p l e (headSpec (wz yX3_agreesWith cX3_agreesWith 4 (some .boolean)) ({ frames := 5, cells := 0, slots := 0, locals := 114 } : Room)).room s m ([.ref p0, .ref p1, .ref p2] : List Value).toArray below meth c H locs 0 0 (MQ below (va_Qi (fun (r : Int32) (Ω1 : Om) => r = R.1 ∧ (r = 0 ∨ r = 1) ∧ inDev G Ω1 p1 (R.2.1) (R.2.2.1) (R.2.2.2) p1_3 ∧ (∀ q : Nat, (q < p1 ∨ p1 + 5 ≤ q) → Ω1 q = Ω q)) (oB G A) A) ([.ref p0, .ref p1, .ref p2] : List Value).toArray s 0 0 A) (F0 m 2 ls []) := by
    intro n_2
    induction n_2 with
    | zero =>
      intro x3_1 p1_0_1 p1_1_1 p1_2_1 Ω_3 H locs v_2_0 h_p0 h_p1 h_p2 hE hW hS ls hl hR
      exfalso
      omega
    | succ n_2 ih2 =>
      intro x3_1 p1_0_1 p1_1_1 p1_2_1 Ω_3 H locs v_2_0 h_p0 h_p1 h_p2 hE hW hS ls hl hR
      rw [f_X3_agreesWith_L2] at hR
      refine lv_iload_n hx hb dX3_agreesWith_2 rfl (lv_at hl 3 rfl) ?_
      refine lv_aload_n hx hb dX3_agreesWith_3 rfl (lv_at hl 0 rfl) ?_
      refine o_get hx hb hts hown hK hW (inJou_o h_p0) rfl ig3 0 (by decide) fl_X3_22 rfl dX3_agreesWith_4 ?_
      refine lv_icmp_ge (tgt := 67) hx hb dX3_agreesWith_7 (by decide) (fun c_4 => ?_) (fun c_4 => ?_)
      · rw [if_pos c_4] at hR
        have i_4 := rle c_4
        refine lv_iconst (v := (1 : Int32)) hx hb dX3_agreesWith_67 (by decide) ?_
        subst hR
        exact W.zret (v := (1 : Int32)) hx hb hr (nb01 (Or.inr rfl)) (fun t ht hW9 => ⟨⟨(1 : Int32), Ω_3, rfl, ⟨rfl, (Or.inr rfl), h_p1, hE⟩, by rw [oB, ht]; exact hW⟩, hS.F ht⟩) hS.2.2 dX3_agreesWith_68
      · rw [if_neg c_4] at hR
        have i_4 := rnle c_4
        refine lv_aload_n hx hb dX3_agreesWith_10 rfl (lv_at hl 0 rfl) ?_
        refine o_get hx hb hts hown hK hW (inJou_o h_p0) rfl ig3 2 (by decide) fl_X3_15 rfl dX3_agreesWith_11 ?_
        refine lv_iload_n hx hb dX3_agreesWith_14 rfl (lv_at hl 3 rfl) ?_
        refine o_zald hx hb hK hW (inJou_a1 h_p0) (vp_in_iff.mpr ⟨by omega, by omega⟩) dX3_agreesWith_15 ?_
        have j_6 : (0 : Int32).toInt = 0 := by decide
        refine lv_if_eq (tgt := 39) hx hb dX3_agreesWith_16 (by decide) (fun c_5 => ?_) (fun c_5 => ?_)
        · rw [if_pos c_5] at hR
          have i_5 := congrArg Int32.toInt c_5
          refine lv_aload_n hx hb dX3_agreesWith_39 rfl (lv_at hl 1 rfl) ?_
          refine lv_aload_n hx hb dX3_agreesWith_40 rfl (lv_at hl 2 rfl) ?_
          refine lv_aload_n hx hb dX3_agreesWith_41 rfl (lv_at hl 0 rfl) ?_
          refine o_get hx hb hts hown hK hW (inJou_o h_p0) rfl ig3 1 (by decide) fl_X3_9 rfl dX3_agreesWith_42 ?_
          refine lv_iload_n hx hb dX3_agreesWith_45 rfl (lv_at hl 3 rfl) ?_
          refine o_iald hx hb hK hW (inJou_a0 h_p0) (vp_in_iff.mpr ⟨by omega, by omega⟩) dX3_agreesWith_46 ?_
          refine o_Vi (rest := []) (As := [.ref p2, .int (p0_1 x3_1.toNatClampNeg)]) (n := 2) hx hb hml hown hts hK hN hZ hW hS hA (c_X1_read l G A Ω_3 p1 p2 p1_0_1 p1_1_1 p1_2_1 p1_3 p2_0 (p0_1 x3_1.toNatClampNeg) (by omega) hB_p2 h_p1 h_p2) (inDev_o h_p1) rfl (good_V ml_X3_32 im_X1_read se_X1_read ini_X1 co_X1_read) (by decide +kernel) ⟨Nat.zero_le _, Nat.zero_le _⟩ hl.1 (Nat.le_of_ble_eq_true rfl) rfl rfl dX3_agreesWith_47 (fun r Ω_7 H locs hp hW hS => ?_)
          obtain ⟨rfl, h_p1, hF_7⟩ := hp
          have h_p0 := h_p0.keep (fun q h1 h2 => hF_7 q (by omega))
          have h_p2 := h_p2.keep (fun q h1 h2 => hF_7 q (by omega))
          have hE : ∀ q : Nat, (q < p1 ∨ p1 + 5 ≤ q) → Ω_7 q = Ω q := fun q g0 => (hF_7 q (by omega)).trans (hE q g0)
          generalize (f_X1_read p1_0_1 p1_3 p2_0 (p0_1 x3_1.toNatClampNeg)) = Z_7 at h_p1 hR ⊢
          obtain ⟨z7_0, z7_1⟩ := Z_7
          dsimp only at h_p1 hR ⊢
          rw [f_X3_agreesWith_C50] at hR
          refine lv_aload_n hx hb dX3_agreesWith_50 rfl (lv_at hl 0 rfl) ?_
          refine o_get hx hb hts hown hK hW (inJou_o h_p0) rfl ig3 3 (by decide) fl_X3_19 rfl dX3_agreesWith_51 ?_
          refine lv_iload_n hx hb dX3_agreesWith_54 rfl (lv_at hl 3 rfl) ?_
          refine o_iald hx hb hK hW (inJou_a2 h_p0) (vp_in_iff.mpr ⟨by omega, by omega⟩) dX3_agreesWith_55 ?_
          refine lv_icmp_eq (tgt := 61) hx hb dX3_agreesWith_56 (by decide) (fun c_8 => ?_) (fun c_8 => ?_)
          · rw [if_pos c_8] at hR
            have i_8 := congrArg Int32.toInt c_8
            refine lv_iinc (v := (x3_1 + (1 : Int32))) (lv' := [(3, .int (x3_1 + (1 : Int32))), (0, .ref p0), (1, .ref p1), (2, .ref p2)]) hx hb dX3_agreesWith_61 hl (k := 3) rfl rfl (by decide) rfl (fun ls hl => ?_)
            refine lv_goto (tgt := 2) hx hb dX3_agreesWith_64 (by decide) ?_
            have j_9 : (1 : Int32).toInt = 1 := by decide
            try have j_10 : (x3_1 + (1 : Int32)).toInt = x3_1.toInt + (1 : Int32).toInt := fb_addI (by omega) (by omega)
            exact ih2 (x3_1 + (1 : Int32)) z7_1 p1_1_1 p1_2_1 Ω_7 H locs (by omega) h_p0 h_p1 h_p2 hE hW hS ls (lv_sub hl [1, 2, 3, 0] rfl) hR
          · rw [if_neg c_8] at hR
            have i_8 := rne c_8
            refine lv_iconst (v := (0 : Int32)) hx hb dX3_agreesWith_59 (by decide) ?_
            subst hR
            exact W.zret (v := (0 : Int32)) hx hb hr (nb01 (Or.inl rfl)) (fun t ht hW9 => ⟨⟨(0 : Int32), Ω_7, rfl, ⟨rfl, (Or.inl rfl), h_p1, hE⟩, by rw [oB, ht]; exact hW⟩, hS.F ht⟩) hS.2.2 dX3_agreesWith_60
        · rw [if_neg c_5] at hR
          have i_5 := rne c_5
          refine lv_aload_n hx hb dX3_agreesWith_19 rfl (lv_at hl 1 rfl) ?_
          refine lv_aload_n hx hb dX3_agreesWith_20 rfl (lv_at hl 2 rfl) ?_
          refine lv_aload_n hx hb dX3_agreesWith_21 rfl (lv_at hl 0 rfl) ?_
          refine o_get hx hb hts hown hK hW (inJou_o h_p0) rfl ig3 1 (by decide) fl_X3_9 rfl dX3_agreesWith_22 ?_
          refine lv_iload_n hx hb dX3_agreesWith_25 rfl (lv_at hl 3 rfl) ?_
          refine o_iald hx hb hK hW (inJou_a0 h_p0) (vp_in_iff.mpr ⟨by omega, by omega⟩) dX3_agreesWith_26 ?_
          refine lv_aload_n hx hb dX3_agreesWith_27 rfl (lv_at hl 0 rfl) ?_
          refine o_get hx hb hts hown hK hW (inJou_o h_p0) rfl ig3 3 (by decide) fl_X3_19 rfl dX3_agreesWith_28 ?_
          refine lv_iload_n hx hb dX3_agreesWith_31 rfl (lv_at hl 3 rfl) ?_
          refine o_iald hx hb hK hW (inJou_a2 h_p0) (vp_in_iff.mpr ⟨by omega, by omega⟩) dX3_agreesWith_32 ?_
          refine o_Vv (rest := []) (As := [.ref p2, .int (p0_1 x3_1.toNatClampNeg), .int (p0_3 x3_1.toNatClampNeg)]) (n := 3) hx hb hml hown hts hK hN hZ hW hS hA (c_X1_write l G A Ω_3 p1 p2 p1_0_1 p1_1_1 p1_2_1 p1_3 p2_0 (p0_1 x3_1.toNatClampNeg) (p0_3 x3_1.toNatClampNeg) (by omega) hB_p2 h_p1 h_p2) (inDev_o h_p1) rfl (good_V ml_X3_26 im_X1_write se_X1_write ini_X1 co_X1_write) (by decide +kernel) ⟨Nat.zero_le _, Nat.zero_le _⟩ hl.1 (Nat.le_of_ble_eq_true rfl) rfl rfl dX3_agreesWith_33 (fun Ω_11 H locs hp hW hS => ?_)
          obtain ⟨h_p1, hF_11⟩ := hp
          have h_p0 := h_p0.keep (fun q h1 h2 => hF_11 q (by omega))
          have h_p2 := h_p2.keep (fun q h1 h2 => hF_11 q (by omega))
          have hE : ∀ q : Nat, (q < p1 ∨ p1 + 5 ≤ q) → Ω_11 q = Ω q := fun q g0 => (hF_11 q (by omega)).trans (hE q g0)
          generalize (f_X1_write p1_0_1 p1_1_1 p1_2_1 p1_3 p2_0 (p0_1 x3_1.toNatClampNeg) (p0_3 x3_1.toNatClampNeg)) = Z_11 at h_p1 hR
          obtain ⟨z11_0, z11_1, z11_2⟩ := Z_11
          dsimp only at h_p1 hR
          rw [f_X3_agreesWith_C36] at hR
          refine lv_goto (tgt := 61) hx hb dX3_agreesWith_36 (by decide) ?_
          refine lv_iinc (v := (x3_1 + (1 : Int32))) (lv' := [(3, .int (x3_1 + (1 : Int32))), (0, .ref p0), (1, .ref p1), (2, .ref p2)]) hx hb dX3_agreesWith_61 hl (k := 3) rfl rfl (by decide) rfl (fun ls hl => ?_)
          refine lv_goto (tgt := 2) hx hb dX3_agreesWith_64 (by decide) ?_
          have j_12 : (1 : Int32).toInt = 1 := by decide
          try have j_13 : (x3_1 + (1 : Int32)).toInt = x3_1.toInt + (1 : Int32).toInt := fb_addI (by omega) (by omega)
          exact ih2 (x3_1 + (1 : Int32)) z11_0 z11_1 z11_2 Ω_11 H locs (by omega) h_p0 h_p1 h_p2 hE hW hS ls (lv_sub hl [1, 2, 3, 0] rfl) hR
  have j_14 : (0 : Int32).toInt = 0 := by decide
  exact L2 4000 (0 : Int32) p1_0 p1_1 p1_2 Ω s.heap [] (by omega) h_p0 h_p1 h_p2 hE hW hS ls (lv_sub hl [1, 2, 3, 0] rfl) hR
set_option maxHeartbeats 4000000 in
set_option maxRecDepth 100000 in
theorem c_X0_holdersOf (l : Launch) (G : Gm) (A : Nat → Prop) (Ω : Om) (p0 : Nat) (p0_0 : Blk) (x1 : Int32) (hB_p0 : BlkInv p0_0) (h_p0 : inBlk G Ω p0 p0_0) : Met l yX0_holdersOf (wz yX0_holdersOf cX0_holdersOf 4 (some .int)) ({ frames := 0, cells := 0, slots := 0, locals := 0 } : Room) (va_Pc [.ref p0, .int x1] (oS G A Ω)) (va_Qi (fun (r : Int32) (Ω1 : Om) => r = (f_X0_holdersOf p0_0 x1) ∧ Ω1 = Ω) (oB G A) A) 0 0 A := by
  refine Met.ofW (cc := cX0_holdersOf) (maxL := 4) (ret := (some .int)) (by decide) rfl ?_
  intro p e s m args below meth c s₁ B hml hv
  obtain ⟨rfl, hW, hK, hN, hZ⟩ := hv
  have hx := B.exec
  have hb := B.bytes
  have hr := B.returns
  have hts : ∀ w ∈ gt, w.before _ s = true := fun w hw => atoms_spec (ws := wz yX0_holdersOf cX0_holdersOf 4 (some .int)) B.pre w (List.mem_cons_of_mem _ hw)
  have hown : s.vm.findClass RX0 = some m.cls := findClass_of_methodNamed B.named
  have hlocks := B.notSynchronized
  have hA : ∀ q, A q → A q := fun _ h => h
  have hS : va_S A s.heap s.heap [] := va_S.rf
  have hS0 := hS
  have hl := lv_entry ([.ref p0, .int x1]) (n := 4) (Nat.le_of_ble_eq_true rfl)
  rw [lg_entry_eq]
  generalize (lg_sl ([.ref p0, .int x1]) ++ List.replicate (4 - (lg_sl ([.ref p0, .int x1])).length) Slot.unset).toArray = ls at hl ⊢
  have hl : lv_has ls 4 [(0, .ref p0), (1, .int x1)] := hl
  generalize hR : (f_X0_holdersOf p0_0 x1) = R
  rw [f_X0_holdersOf] at hR
  refine lv_iconst (v := (0 : Int32)) hx hb dX0_holdersOf_0 (by decide) ?_
  refine lv_istore_n (lv' := [(2, .int (0 : Int32)), (0, .ref p0), (1, .int x1)]) hx hb dX0_holdersOf_1 rfl hl (by decide) rfl (fun ls hl => ?_)
  refine lv_iconst (v := (0 : Int32)) hx hb dX0_holdersOf_2 (by decide) ?_
  refine lv_istore_n (lv' := [(3, .int (0 : Int32)), (2, .int (0 : Int32)), (0, .ref p0), (1, .int x1)]) hx hb dX0_holdersOf_3 rfl hl (by decide) rfl (fun ls hl => ?_)
  have L4 : ∀ (n_2 : Nat) (x2_1 : Int32) (x3_1 : Int32) (H : Heap) (locs : List Loc), (0 ≤ x3_1.toInt ∧ x3_1.toInt ≤ 6 ∧ 6 - x3_1.toInt < n_2) → oW G A Ω H → va_S A s.heap H locs → ∀ ls : Array Slot, lv_has ls 4 [(0, .ref p0), (1, .int x1), (2, .int x2_1), (3, .int x3_1)] → (f_X0_holdersOf_L4 p0_0 x1 n_2 x2_1 x3_1) = R → W p l e (headSpec (wz yX0_holdersOf cX0_holdersOf 4 (some .int)) ({ frames := 0, cells := 0, slots := 0, locals := 0 } : Room)).room s m ([.ref p0, .int x1] : List Value).toArray below meth c H locs 0 0 (MQ below (va_Qi (fun (r : Int32) (Ω1 : Om) => r = R ∧ Ω1 = Ω) (oB G A) A) ([.ref p0, .int x1] : List Value).toArray s 0 0 A) (F0 m 4 ls []) := by
    intro n_2
    induction n_2 with
    | zero =>
      intro x2_1 x3_1 H locs v_4_0 hW hS ls hl hR
      exfalso
      omega
    | succ n_2 ih4 =>
      intro x2_1 x3_1 H locs v_4_0 hW hS ls hl hR
      rw [f_X0_holdersOf_L4] at hR
      refine lv_iload_n hx hb dX0_holdersOf_4 rfl (lv_at hl 3 rfl) ?_
      refine lv_aload_n hx hb dX0_holdersOf_5 rfl (lv_at hl 0 rfl) ?_
      refine o_get hx hb hts hown hK hW (inBlk_o h_p0) rfl ig0 0 (by decide) fl_X0_48 rfl dX0_holdersOf_6 ?_
      try have j_4 : 0 ≤ (p0_0 0 0).toInt ∧ (p0_0 0 0).toInt ≤ 6 := BI_regs (by assumption)
      refine lv_icmp_ge (tgt := 31) hx hb dX0_holdersOf_9 (by decide) (fun c_3 => ?_) (fun c_3 => ?_)
      · rw [if_pos c_3] at hR
        have i_3 := rle c_3
        refine lv_iconst (v := (0 : Int32)) hx hb dX0_holdersOf_31 (by decide) ?_
        refine lv_istore_n (lv' := [(3, .int (0 : Int32)), (0, .ref p0), (1, .int x1), (2, .int x2_1)]) hx hb dX0_holdersOf_32 rfl hl (by decide) rfl (fun ls hl => ?_)
        have L33 : ∀ (n_6 : Nat) (x2_5 : Int32) (x3_5 : Int32) (H : Heap) (locs : List Loc), (0 ≤ x3_5.toInt ∧ x3_5.toInt ≤ 4 ∧ 4 - x3_5.toInt < n_6) → oW G A Ω H → va_S A s.heap H locs → ∀ ls : Array Slot, lv_has ls 4 [(0, .ref p0), (1, .int x1), (2, .int x2_5), (3, .int x3_5)] → (f_X0_holdersOf_L33 p0_0 x1 n_6 x2_5 x3_5) = R → W p l e (headSpec (wz yX0_holdersOf cX0_holdersOf 4 (some .int)) ({ frames := 0, cells := 0, slots := 0, locals := 0 } : Room)).room s m ([.ref p0, .int x1] : List Value).toArray below meth c H locs 0 0 (MQ below (va_Qi (fun (r : Int32) (Ω1 : Om) => r = R ∧ Ω1 = Ω) (oB G A) A) ([.ref p0, .int x1] : List Value).toArray s 0 0 A) (F0 m 33 ls []) := by
          intro n_6
          induction n_6 with
          | zero =>
            intro x2_5 x3_5 H locs v_33_0 hW hS ls hl hR
            exfalso
            omega
          | succ n_6 ih33 =>
            intro x2_5 x3_5 H locs v_33_0 hW hS ls hl hR
            rw [f_X0_holdersOf_L33] at hR
            refine lv_iload_n hx hb dX0_holdersOf_33 rfl (lv_at hl 3 rfl) ?_
            refine lv_aload_n hx hb dX0_holdersOf_34 rfl (lv_at hl 0 rfl) ?_
            refine o_get hx hb hts hown hK hW (inBlk_o h_p0) rfl ig0 2 (by decide) fl_X0_55 rfl dX0_holdersOf_35 ?_
            try have j_8 : 0 ≤ (p0_0 0 2).toInt ∧ (p0_0 0 2).toInt ≤ 4 := BI_als (by assumption)
            refine lv_icmp_ge (tgt := 60) hx hb dX0_holdersOf_38 (by decide) (fun c_7 => ?_) (fun c_7 => ?_)
            · rw [if_pos c_7] at hR
              have i_7 := rle c_7
              refine lv_iload_n hx hb dX0_holdersOf_60 rfl (lv_at hl 2 rfl) ?_
              subst hR
              exact W.iret (v := x2_5) hx hb hr (fun t ht hW9 => ⟨⟨x2_5, Ω, rfl, ⟨rfl, rfl⟩, by rw [oB, ht]; exact hW⟩, hS.F ht⟩) hS.2.2 dX0_holdersOf_61
            · rw [if_neg c_7] at hR
              have i_7 := rnle c_7
              refine lv_aload_n hx hb dX0_holdersOf_41 rfl (lv_at hl 0 rfl) ?_
              refine o_get hx hb hts hown hK hW (inBlk_o h_p0) rfl ig0 12 (by decide) fl_X0_39 rfl dX0_holdersOf_42 ?_
              refine lv_iload_n hx hb dX0_holdersOf_45 rfl (lv_at hl 3 rfl) ?_
              refine o_iald hx hb hK hW (inBlk_a9 h_p0) (vp_in_iff.mpr ⟨by omega, by omega⟩) dX0_holdersOf_46 ?_
              refine lv_iload_n hx hb dX0_holdersOf_47 rfl (lv_at hl 1 rfl) ?_
              refine lv_icmp_ne (tgt := 54) hx hb dX0_holdersOf_48 (by decide) (fun c_9 => ?_) (fun c_9 => ?_)
              · rw [if_neg c_9] at hR
                have i_9 := rne c_9
                refine lv_iinc (v := (x3_5 + (1 : Int32))) (lv' := [(3, .int (x3_5 + (1 : Int32))), (0, .ref p0), (1, .int x1), (2, .int x2_5)]) hx hb dX0_holdersOf_54 hl (k := 3) rfl rfl (by decide) rfl (fun ls hl => ?_)
                refine lv_goto (tgt := 33) hx hb dX0_holdersOf_57 (by decide) ?_
                have j_10 : (1 : Int32).toInt = 1 := by decide
                try have j_11 : (x3_5 + (1 : Int32)).toInt = x3_5.toInt + (1 : Int32).toInt := fb_addI (by omega) (by omega)
                exact ih33 x2_5 (x3_5 + (1 : Int32)) H locs (by omega) hW hS ls (lv_sub hl [1, 2, 3, 0] rfl) hR
              · rw [if_pos c_9] at hR
                have i_9 := congrArg Int32.toInt c_9
                refine lv_iinc (v := (x2_5 + (1 : Int32))) (lv' := [(2, .int (x2_5 + (1 : Int32))), (0, .ref p0), (1, .int x1), (3, .int x3_5)]) hx hb dX0_holdersOf_51 hl (k := 2) rfl rfl (by decide) rfl (fun ls hl => ?_)
                refine lv_iinc (v := (x3_5 + (1 : Int32))) (lv' := [(3, .int (x3_5 + (1 : Int32))), (2, .int (x2_5 + (1 : Int32))), (0, .ref p0), (1, .int x1)]) hx hb dX0_holdersOf_54 hl (k := 3) rfl rfl (by decide) rfl (fun ls hl => ?_)
                refine lv_goto (tgt := 33) hx hb dX0_holdersOf_57 (by decide) ?_
                have j_12 : (1 : Int32).toInt = 1 := by decide
                try have j_13 : (x2_5 + (1 : Int32)).toInt = x2_5.toInt + (1 : Int32).toInt := fb_addI (by omega) (by omega)
                try have j_14 : (x3_5 + (1 : Int32)).toInt = x3_5.toInt + (1 : Int32).toInt := fb_addI (by omega) (by omega)
                exact ih33 (x2_5 + (1 : Int32)) (x3_5 + (1 : Int32)) H locs (by omega) hW hS ls (lv_sub hl [2, 3, 1, 0] rfl) hR
        have j_15 : (0 : Int32).toInt = 0 := by decide
        exact L33 4000 x2_1 (0 : Int32) H locs (by omega) hW hS ls (lv_sub hl [1, 2, 3, 0] rfl) hR
      · rw [if_neg c_3] at hR
        have i_3 := rnle c_3
        refine lv_aload_n hx hb dX0_holdersOf_12 rfl (lv_at hl 0 rfl) ?_
        refine o_get hx hb hts hown hK hW (inBlk_o h_p0) rfl ig0 3 (by decide) fl_X0_9 rfl dX0_holdersOf_13 ?_
        refine lv_iload_n hx hb dX0_holdersOf_16 rfl (lv_at hl 3 rfl) ?_
        refine o_iald hx hb hK hW (inBlk_a0 h_p0) (vp_in_iff.mpr ⟨by omega, by omega⟩) dX0_holdersOf_17 ?_
        refine lv_iload_n hx hb dX0_holdersOf_18 rfl (lv_at hl 1 rfl) ?_
        refine lv_icmp_ne (tgt := 25) hx hb dX0_holdersOf_19 (by decide) (fun c_16 => ?_) (fun c_16 => ?_)
        · rw [if_neg c_16] at hR
          have i_16 := rne c_16
          refine lv_iinc (v := (x3_1 + (1 : Int32))) (lv' := [(3, .int (x3_1 + (1 : Int32))), (0, .ref p0), (1, .int x1), (2, .int x2_1)]) hx hb dX0_holdersOf_25 hl (k := 3) rfl rfl (by decide) rfl (fun ls hl => ?_)
          refine lv_goto (tgt := 4) hx hb dX0_holdersOf_28 (by decide) ?_
          have j_17 : (1 : Int32).toInt = 1 := by decide
          try have j_18 : (x3_1 + (1 : Int32)).toInt = x3_1.toInt + (1 : Int32).toInt := fb_addI (by omega) (by omega)
          exact ih4 x2_1 (x3_1 + (1 : Int32)) H locs (by omega) hW hS ls (lv_sub hl [1, 2, 3, 0] rfl) hR
        · rw [if_pos c_16] at hR
          have i_16 := congrArg Int32.toInt c_16
          refine lv_iinc (v := (x2_1 + (1 : Int32))) (lv' := [(2, .int (x2_1 + (1 : Int32))), (0, .ref p0), (1, .int x1), (3, .int x3_1)]) hx hb dX0_holdersOf_22 hl (k := 2) rfl rfl (by decide) rfl (fun ls hl => ?_)
          refine lv_iinc (v := (x3_1 + (1 : Int32))) (lv' := [(3, .int (x3_1 + (1 : Int32))), (2, .int (x2_1 + (1 : Int32))), (0, .ref p0), (1, .int x1)]) hx hb dX0_holdersOf_25 hl (k := 3) rfl rfl (by decide) rfl (fun ls hl => ?_)
          refine lv_goto (tgt := 4) hx hb dX0_holdersOf_28 (by decide) ?_
          have j_19 : (1 : Int32).toInt = 1 := by decide
          try have j_20 : (x2_1 + (1 : Int32)).toInt = x2_1.toInt + (1 : Int32).toInt := fb_addI (by omega) (by omega)
          try have j_21 : (x3_1 + (1 : Int32)).toInt = x3_1.toInt + (1 : Int32).toInt := fb_addI (by omega) (by omega)
          exact ih4 (x2_1 + (1 : Int32)) (x3_1 + (1 : Int32)) H locs (by omega) hW hS ls (lv_sub hl [2, 3, 1, 0] rfl) hR
  have j_22 : (0 : Int32).toInt = 0 := by decide
  exact L4 4000 (0 : Int32) (0 : Int32) s.heap [] (by omega) hW hS ls (lv_sub hl [2, 3, 1, 0] rfl) hR
set_option maxHeartbeats 4000000 in
set_option maxRecDepth 100000 in
theorem c_X0_canReach (l : Launch) (G : Gm) (A : Nat → Prop) (Ω : Om) (p0 : Nat) (p0_0 : Blk) (x1 : Int32) (x2 : Int32) (hB_p0 : BlkInv p0_0) (hi_x2 : 0 ≤ x2.toInt ∧ x2.toInt < 12) (h_p0 : inBlk G Ω p0 p0_0) : Met l yX0_canReach (wz yX0_canReach cX0_canReach 4 (some .boolean)) ({ frames := 3, cells := 0, slots := 0, locals := 66 } : Room) (va_Pc [.ref p0, .int x1, .int x2] (oS G A Ω)) (va_Qi (fun (r : Int32) (Ω1 : Om) => (r = (f_X0_canReach p0_0 x1 x2) ∧ (r = 0 ∨ r = 1)) ∧ Ω1 = Ω) (oB G A) A) 0 0 A := by
  refine Met.ofW (cc := cX0_canReach) (maxL := 4) (ret := (some .boolean)) (by decide) rfl ?_
  intro p e s m args below meth c s₁ B hml hv
  obtain ⟨rfl, hW, hK, hN, hZ⟩ := hv
  have hx := B.exec
  have hb := B.bytes
  have hr := B.returns
  have hts : ∀ w ∈ gt, w.before _ s = true := fun w hw => atoms_spec (ws := wz yX0_canReach cX0_canReach 4 (some .boolean)) B.pre w (List.mem_cons_of_mem _ hw)
  have hown : s.vm.findClass RX0 = some m.cls := findClass_of_methodNamed B.named
  have hlocks := B.notSynchronized
  have hA : ∀ q, A q → A q := fun _ h => h
  have hS : va_S A s.heap s.heap [] := va_S.rf
  have hS0 := hS
  have hl := lv_entry ([.ref p0, .int x1, .int x2]) (n := 4) (Nat.le_of_ble_eq_true rfl)
  rw [lg_entry_eq]
  generalize (lg_sl ([.ref p0, .int x1, .int x2]) ++ List.replicate (4 - (lg_sl ([.ref p0, .int x1, .int x2])).length) Slot.unset).toArray = ls at hl ⊢
  have hl : lv_has ls 4 [(0, .ref p0), (1, .int x1), (2, .int x2)] := hl
  generalize hR : (f_X0_canReach p0_0 x1 x2) = R
  rw [f_X0_canReach] at hR
  refine lv_aload_n hx hb dX0_canReach_0 rfl (lv_at hl 0 rfl) ?_
  refine lv_iload_n hx hb dX0_canReach_1 rfl (lv_at hl 1 rfl) ?_
  refine o_ViR (rest := []) (As := [.int x1]) (n := 1) hx hb hml hown hts hK hN hZ hW hS hA (c_X0_registerBehind l G A Ω p0 p0_0 x1 hB_p0 h_p0) (inBlk_o h_p0) rfl (good_V ml_X0_77 im_X0_registerBehind se_X0_registerBehind ini_X0 co_X0_registerBehind) (by decide +kernel) ⟨Nat.zero_le _, Nat.zero_le _⟩ hl.1 (Nat.le_of_ble_eq_true rfl) rfl rfl dX0_canReach_2 (fun r H locs hp hW hS => ?_)
  subst hp
  refine lv_istore_n (lv' := [(3, .int (f_X0_registerBehind p0_0 x1)), (0, .ref p0), (1, .int x1), (2, .int x2)]) hx hb dX0_canReach_5 rfl hl (by decide) rfl (fun ls hl => ?_)
  refine lv_iload_n hx hb dX0_canReach_6 rfl (lv_at hl 0 rfl) ?_
  refine lv_bipush (v := (-9 : Int32)) hx hb dX0_canReach_7 (by decide) ?_
  try have j_3 : (f_X0_registerBehind p0_0 x1).toInt = -9 ∨ (0 ≤ (f_X0_registerBehind p0_0 x1).toInt ∧ (f_X0_registerBehind p0_0 x1).toInt < 6) := R_registerBehind hB_p0 _
  have j_4 : (-9 : Int32).toInt = -9 := by decide
  refine lv_icmp_eq (tgt := 40) hx hb dX0_canReach_9 (by decide) (fun c_2 => ?_) (fun c_2 => ?_)
  · rw [if_pos c_2] at hR
    have i_2 := congrArg Int32.toInt c_2
    refine lv_iconst (v := (0 : Int32)) hx hb dX0_canReach_40 (by decide) ?_
    subst hR
    exact W.zret (v := (0 : Int32)) hx hb hr (nb01 (Or.inl rfl)) (fun t ht hW9 => ⟨⟨(0 : Int32), Ω, rfl, ⟨⟨rfl, (Or.inl rfl)⟩, rfl⟩, by rw [oB, ht]; exact hW⟩, hS.F ht⟩) hS.2.2 dX0_canReach_41
  · rw [if_neg c_2] at hR
    have i_2 := rne c_2
    refine lv_iload_n hx hb dX0_canReach_12 rfl (lv_at hl 0 rfl) ?_
    refine lv_aload_n hx hb dX0_canReach_13 rfl (lv_at hl 1 rfl) ?_
    refine o_get hx hb hts hown hK hW (inBlk_o h_p0) rfl ig0 6 (by decide) fl_X0_21 rfl dX0_canReach_14 ?_
    refine lv_iload_n hx hb dX0_canReach_17 rfl (lv_at hl 3 rfl) ?_
    refine o_iald hx hb hK hW (inBlk_a3 h_p0) (vp_in_iff.mpr ⟨by omega, by omega⟩) dX0_canReach_18 ?_
    try have j_6 : 0 ≤ ((p0_0 4) x2.toNatClampNeg).toInt ∧ ((p0_0 4) x2.toNatClampNeg).toInt < 6 := BI_owner hB_p0 _
    refine lv_icmp_eq (tgt := 36) hx hb dX0_canReach_19 (by decide) (fun c_5 => ?_) (fun c_5 => ?_)
    · rw [if_pos c_5] at hR
      have i_5 := congrArg Int32.toInt c_5
      refine lv_iconst (v := (1 : Int32)) hx hb dX0_canReach_36 (by decide) ?_
      refine lv_goto (tgt := 41) hx hb dX0_canReach_37 (by decide) ?_
      subst hR
      exact W.zret (v := (1 : Int32)) hx hb hr (nb01 (Or.inr rfl)) (fun t ht hW9 => ⟨⟨(1 : Int32), Ω, rfl, ⟨⟨rfl, (Or.inr rfl)⟩, rfl⟩, by rw [oB, ht]; exact hW⟩, hS.F ht⟩) hS.2.2 dX0_canReach_41
    · rw [if_neg c_5] at hR
      have i_5 := rne c_5
      refine lv_aload_n hx hb dX0_canReach_22 rfl (lv_at hl 1 rfl) ?_
      refine lv_aload_n hx hb dX0_canReach_23 rfl (lv_at hl 1 rfl) ?_
      refine o_get hx hb hts hown hK hW (inBlk_o h_p0) rfl ig0 6 (by decide) fl_X0_21 rfl dX0_canReach_24 ?_
      refine lv_iload_n hx hb dX0_canReach_27 rfl (lv_at hl 3 rfl) ?_
      refine o_iald hx hb hK hW (inBlk_a3 h_p0) (vp_in_iff.mpr ⟨by omega, by omega⟩) dX0_canReach_28 ?_
      refine lv_iload_n hx hb dX0_canReach_29 rfl (lv_at hl 0 rfl) ?_
      refine o_ViR (rest := []) (As := [.int ((p0_0 4) x2.toNatClampNeg), .int (f_X0_registerBehind p0_0 x1)]) (n := 2) hx hb hml hown hts hK hN hZ hW hS hA (c_X0_isOpenedBy l G A Ω p0 p0_0 ((p0_0 4) x2.toNatClampNeg) (f_X0_registerBehind p0_0 x1) hB_p0 (by omega) h_p0) (inBlk_o h_p0) rfl (good_V ml_X0_80 im_X0_isOpenedBy se_X0_isOpenedBy ini_X0 co_X0_isOpenedBy) (by decide +kernel) ⟨Nat.zero_le _, Nat.zero_le _⟩ hl.1 (Nat.le_of_ble_eq_true rfl) rfl rfl dX0_canReach_30 (fun r H locs hp hW hS => ?_)
      obtain ⟨rfl, hz_7⟩ := hp
      have j_9 : (0 : Int32).toInt = 0 := by decide
      refine lv_if_eq (tgt := 40) hx hb dX0_canReach_33 (by decide) (fun c_8 => ?_) (fun c_8 => ?_)
      · rw [if_pos c_8] at hR
        have i_8 := congrArg Int32.toInt c_8
        refine lv_iconst (v := (0 : Int32)) hx hb dX0_canReach_40 (by decide) ?_
        subst hR
        exact W.zret (v := (0 : Int32)) hx hb hr (nb01 (Or.inl rfl)) (fun t ht hW9 => ⟨⟨(0 : Int32), Ω, rfl, ⟨⟨rfl, (Or.inl rfl)⟩, rfl⟩, by rw [oB, ht]; exact hW⟩, hS.F ht⟩) hS.2.2 dX0_canReach_41
      · rw [if_neg c_8] at hR
        have i_8 := rne c_8
        have b_c_8 := rOB c_8
        have bb_c_8 := BI_flds hB_p0
        refine lv_iconst (v := (1 : Int32)) hx hb dX0_canReach_36 (by decide) ?_
        refine lv_goto (tgt := 41) hx hb dX0_canReach_37 (by decide) ?_
        subst hR
        exact W.zret (v := (1 : Int32)) hx hb hr (nb01 (Or.inr rfl)) (fun t ht hW9 => ⟨⟨(1 : Int32), Ω, rfl, ⟨⟨rfl, (Or.inr rfl)⟩, rfl⟩, by rw [oB, ht]; exact hW⟩, hS.F ht⟩) hS.2.2 dX0_canReach_41
set_option maxHeartbeats 4000000 in
set_option maxRecDepth 100000 in
theorem c_X0_isGate (l : Launch) (G : Gm) (A : Nat → Prop) (Ω : Om) (p0 : Nat) (p0_0 : Blk) (x1 : Int32) (hB_p0 : BlkInv p0_0) (h_p0 : inBlk G Ω p0 p0_0) : Met l yX0_isGate (wz yX0_isGate cX0_isGate 3 (some .boolean)) ({ frames := 0, cells := 0, slots := 0, locals := 0 } : Room) (va_Pc [.ref p0, .int x1] (oS G A Ω)) (va_Qi (fun (r : Int32) (Ω1 : Om) => (r = (f_X0_isGate p0_0 x1) ∧ (r = 0 ∨ r = 1)) ∧ Ω1 = Ω) (oB G A) A) 0 0 A := by
  refine Met.ofW (cc := cX0_isGate) (maxL := 3) (ret := (some .boolean)) (by decide) rfl ?_
  intro p e s m args below meth c s₁ B hml hv
  obtain ⟨rfl, hW, hK, hN, hZ⟩ := hv
  have hx := B.exec
  have hb := B.bytes
  have hr := B.returns
  have hts : ∀ w ∈ gt, w.before _ s = true := fun w hw => atoms_spec (ws := wz yX0_isGate cX0_isGate 3 (some .boolean)) B.pre w (List.mem_cons_of_mem _ hw)
  have hown : s.vm.findClass RX0 = some m.cls := findClass_of_methodNamed B.named
  have hlocks := B.notSynchronized
  have hA : ∀ q, A q → A q := fun _ h => h
  have hS : va_S A s.heap s.heap [] := va_S.rf
  have hS0 := hS
  have hl := lv_entry ([.ref p0, .int x1]) (n := 3) (Nat.le_of_ble_eq_true rfl)
  rw [lg_entry_eq]
  generalize (lg_sl ([.ref p0, .int x1]) ++ List.replicate (3 - (lg_sl ([.ref p0, .int x1])).length) Slot.unset).toArray = ls at hl ⊢
  have hl : lv_has ls 3 [(0, .ref p0), (1, .int x1)] := hl
  generalize hR : (f_X0_isGate p0_0 x1) = R
  rw [f_X0_isGate] at hR
  refine lv_iconst (v := (0 : Int32)) hx hb dX0_isGate_0 (by decide) ?_
  refine lv_istore_n (lv' := [(2, .int (0 : Int32)), (0, .ref p0), (1, .int x1)]) hx hb dX0_isGate_1 rfl hl (by decide) rfl (fun ls hl => ?_)
  have L2 : ∀ (n_2 : Nat) (x2_1 : Int32) (H : Heap) (locs : List Loc), (0 ≤ x2_1.toInt ∧ x2_1.toInt ≤ 6 ∧ 6 - x2_1.toInt < n_2) → oW G A Ω H → va_S A s.heap H locs → ∀ ls : Array Slot, lv_has ls 3 [(0, .ref p0), (1, .int x1), (2, .int x2_1)] → (f_X0_isGate_L2 p0_0 x1 n_2 x2_1) = R → W p l e (headSpec (wz yX0_isGate cX0_isGate 3 (some .boolean)) ({ frames := 0, cells := 0, slots := 0, locals := 0 } : Room)).room s m ([.ref p0, .int x1] : List Value).toArray below meth c H locs 0 0 (MQ below (va_Qi (fun (r : Int32) (Ω1 : Om) => (r = R ∧ (r = 0 ∨ r = 1)) ∧ Ω1 = Ω) (oB G A) A) ([.ref p0, .int x1] : List Value).toArray s 0 0 A) (F0 m 2 ls []) := by
    intro n_2
    induction n_2 with
    | zero =>
      intro x2_1 H locs v_2_0 hW hS ls hl hR
      exfalso
      omega
    | succ n_2 ih2 =>
      intro x2_1 H locs v_2_0 hW hS ls hl hR
      rw [f_X0_isGate_L2] at hR
      refine lv_iload_n hx hb dX0_isGate_2 rfl (lv_at hl 2 rfl) ?_
      refine lv_aload_n hx hb dX0_isGate_3 rfl (lv_at hl 0 rfl) ?_
      refine o_get hx hb hts hown hK hW (inBlk_o h_p0) rfl ig0 0 (by decide) fl_X0_48 rfl dX0_isGate_4 ?_
      try have j_4 : 0 ≤ (p0_0 0 0).toInt ∧ (p0_0 0 0).toInt ≤ 6 := BI_regs (by assumption)
      refine lv_icmp_ge (tgt := 28) hx hb dX0_isGate_7 (by decide) (fun c_3 => ?_) (fun c_3 => ?_)
      · rw [if_pos c_3] at hR
        have i_3 := rle c_3
        refine lv_iconst (v := (0 : Int32)) hx hb dX0_isGate_28 (by decide) ?_
        subst hR
        exact W.zret (v := (0 : Int32)) hx hb hr (nb01 (Or.inl rfl)) (fun t ht hW9 => ⟨⟨(0 : Int32), Ω, rfl, ⟨⟨rfl, (Or.inl rfl)⟩, rfl⟩, by rw [oB, ht]; exact hW⟩, hS.F ht⟩) hS.2.2 dX0_isGate_29
      · rw [if_neg c_3] at hR
        have i_3 := rnle c_3
        refine lv_aload_n hx hb dX0_isGate_10 rfl (lv_at hl 0 rfl) ?_
        refine o_get hx hb hts hown hK hW (inBlk_o h_p0) rfl ig0 5 (by decide) fl_X0_18 rfl dX0_isGate_11 ?_
        refine lv_iload_n hx hb dX0_isGate_14 rfl (lv_at hl 2 rfl) ?_
        refine o_iald hx hb hK hW (inBlk_a2 h_p0) (vp_in_iff.mpr ⟨by omega, by omega⟩) dX0_isGate_15 ?_
        refine lv_iload_n hx hb dX0_isGate_16 rfl (lv_at hl 1 rfl) ?_
        refine lv_icmp_ne (tgt := 22) hx hb dX0_isGate_17 (by decide) (fun c_5 => ?_) (fun c_5 => ?_)
        · rw [if_neg c_5] at hR
          have i_5 := rne c_5
          refine lv_iinc (v := (x2_1 + (1 : Int32))) (lv' := [(2, .int (x2_1 + (1 : Int32))), (0, .ref p0), (1, .int x1)]) hx hb dX0_isGate_22 hl (k := 2) rfl rfl (by decide) rfl (fun ls hl => ?_)
          refine lv_goto (tgt := 2) hx hb dX0_isGate_25 (by decide) ?_
          have j_6 : (1 : Int32).toInt = 1 := by decide
          try have j_7 : (x2_1 + (1 : Int32)).toInt = x2_1.toInt + (1 : Int32).toInt := fb_addI (by omega) (by omega)
          exact ih2 (x2_1 + (1 : Int32)) H locs (by omega) hW hS ls (lv_sub hl [1, 2, 0] rfl) hR
        · rw [if_pos c_5] at hR
          have i_5 := congrArg Int32.toInt c_5
          refine lv_iconst (v := (1 : Int32)) hx hb dX0_isGate_20 (by decide) ?_
          subst hR
          exact W.zret (v := (1 : Int32)) hx hb hr (nb01 (Or.inr rfl)) (fun t ht hW9 => ⟨⟨(1 : Int32), Ω, rfl, ⟨⟨rfl, (Or.inr rfl)⟩, rfl⟩, by rw [oB, ht]; exact hW⟩, hS.F ht⟩) hS.2.2 dX0_isGate_21
  have j_8 : (0 : Int32).toInt = 0 := by decide
  exact L2 4000 (0 : Int32) s.heap [] (by omega) hW hS ls (lv_sub hl [1, 2, 0] rfl) hR
set_option maxHeartbeats 4000000 in
set_option maxRecDepth 100000 in
theorem c_X0_isLock (l : Launch) (G : Gm) (A : Nat → Prop) (Ω : Om) (p0 : Nat) (p0_0 : Blk) (x1 : Int32) (hB_p0 : BlkInv p0_0) (h_p0 : inBlk G Ω p0 p0_0) : Met l yX0_isLock (wz yX0_isLock cX0_isLock 3 (some .boolean)) ({ frames := 0, cells := 0, slots := 0, locals := 0 } : Room) (va_Pc [.ref p0, .int x1] (oS G A Ω)) (va_Qi (fun (r : Int32) (Ω1 : Om) => (r = (f_X0_isLock p0_0 x1) ∧ (r = 0 ∨ r = 1)) ∧ Ω1 = Ω) (oB G A) A) 0 0 A := by
  refine Met.ofW (cc := cX0_isLock) (maxL := 3) (ret := (some .boolean)) (by decide) rfl ?_
  intro p e s m args below meth c s₁ B hml hv
  obtain ⟨rfl, hW, hK, hN, hZ⟩ := hv
  have hx := B.exec
  have hb := B.bytes
  have hr := B.returns
  have hts : ∀ w ∈ gt, w.before _ s = true := fun w hw => atoms_spec (ws := wz yX0_isLock cX0_isLock 3 (some .boolean)) B.pre w (List.mem_cons_of_mem _ hw)
  have hown : s.vm.findClass RX0 = some m.cls := findClass_of_methodNamed B.named
  have hlocks := B.notSynchronized
  have hA : ∀ q, A q → A q := fun _ h => h
  have hS : va_S A s.heap s.heap [] := va_S.rf
  have hS0 := hS
  have hl := lv_entry ([.ref p0, .int x1]) (n := 3) (Nat.le_of_ble_eq_true rfl)
  rw [lg_entry_eq]
  generalize (lg_sl ([.ref p0, .int x1]) ++ List.replicate (3 - (lg_sl ([.ref p0, .int x1])).length) Slot.unset).toArray = ls at hl ⊢
  have hl : lv_has ls 3 [(0, .ref p0), (1, .int x1)] := hl
  generalize hR : (f_X0_isLock p0_0 x1) = R
  rw [f_X0_isLock] at hR
  refine lv_iconst (v := (0 : Int32)) hx hb dX0_isLock_0 (by decide) ?_
  refine lv_istore_n (lv' := [(2, .int (0 : Int32)), (0, .ref p0), (1, .int x1)]) hx hb dX0_isLock_1 rfl hl (by decide) rfl (fun ls hl => ?_)
  have L2 : ∀ (n_2 : Nat) (x2_1 : Int32) (H : Heap) (locs : List Loc), (0 ≤ x2_1.toInt ∧ x2_1.toInt ≤ 6 ∧ 6 - x2_1.toInt < n_2) → oW G A Ω H → va_S A s.heap H locs → ∀ ls : Array Slot, lv_has ls 3 [(0, .ref p0), (1, .int x1), (2, .int x2_1)] → (f_X0_isLock_L2 p0_0 x1 n_2 x2_1) = R → W p l e (headSpec (wz yX0_isLock cX0_isLock 3 (some .boolean)) ({ frames := 0, cells := 0, slots := 0, locals := 0 } : Room)).room s m ([.ref p0, .int x1] : List Value).toArray below meth c H locs 0 0 (MQ below (va_Qi (fun (r : Int32) (Ω1 : Om) => (r = R ∧ (r = 0 ∨ r = 1)) ∧ Ω1 = Ω) (oB G A) A) ([.ref p0, .int x1] : List Value).toArray s 0 0 A) (F0 m 2 ls []) := by
    intro n_2
    induction n_2 with
    | zero =>
      intro x2_1 H locs v_2_0 hW hS ls hl hR
      exfalso
      omega
    | succ n_2 ih2 =>
      intro x2_1 H locs v_2_0 hW hS ls hl hR
      rw [f_X0_isLock_L2] at hR
      refine lv_iload_n hx hb dX0_isLock_2 rfl (lv_at hl 2 rfl) ?_
      refine lv_aload_n hx hb dX0_isLock_3 rfl (lv_at hl 0 rfl) ?_
      refine o_get hx hb hts hown hK hW (inBlk_o h_p0) rfl ig0 0 (by decide) fl_X0_48 rfl dX0_isLock_4 ?_
      try have j_4 : 0 ≤ (p0_0 0 0).toInt ∧ (p0_0 0 0).toInt ≤ 6 := BI_regs (by assumption)
      refine lv_icmp_ge (tgt := 28) hx hb dX0_isLock_7 (by decide) (fun c_3 => ?_) (fun c_3 => ?_)
      · rw [if_pos c_3] at hR
        have i_3 := rle c_3
        refine lv_iconst (v := (0 : Int32)) hx hb dX0_isLock_28 (by decide) ?_
        subst hR
        exact W.zret (v := (0 : Int32)) hx hb hr (nb01 (Or.inl rfl)) (fun t ht hW9 => ⟨⟨(0 : Int32), Ω, rfl, ⟨⟨rfl, (Or.inl rfl)⟩, rfl⟩, by rw [oB, ht]; exact hW⟩, hS.F ht⟩) hS.2.2 dX0_isLock_29
      · rw [if_neg c_3] at hR
        have i_3 := rnle c_3
        refine lv_aload_n hx hb dX0_isLock_10 rfl (lv_at hl 0 rfl) ?_
        refine o_get hx hb hts hown hK hW (inBlk_o h_p0) rfl ig0 4 (by decide) fl_X0_15 rfl dX0_isLock_11 ?_
        refine lv_iload_n hx hb dX0_isLock_14 rfl (lv_at hl 2 rfl) ?_
        refine o_iald hx hb hK hW (inBlk_a1 h_p0) (vp_in_iff.mpr ⟨by omega, by omega⟩) dX0_isLock_15 ?_
        refine lv_iload_n hx hb dX0_isLock_16 rfl (lv_at hl 1 rfl) ?_
        refine lv_icmp_ne (tgt := 22) hx hb dX0_isLock_17 (by decide) (fun c_5 => ?_) (fun c_5 => ?_)
        · rw [if_neg c_5] at hR
          have i_5 := rne c_5
          refine lv_iinc (v := (x2_1 + (1 : Int32))) (lv' := [(2, .int (x2_1 + (1 : Int32))), (0, .ref p0), (1, .int x1)]) hx hb dX0_isLock_22 hl (k := 2) rfl rfl (by decide) rfl (fun ls hl => ?_)
          refine lv_goto (tgt := 2) hx hb dX0_isLock_25 (by decide) ?_
          have j_6 : (1 : Int32).toInt = 1 := by decide
          try have j_7 : (x2_1 + (1 : Int32)).toInt = x2_1.toInt + (1 : Int32).toInt := fb_addI (by omega) (by omega)
          exact ih2 (x2_1 + (1 : Int32)) H locs (by omega) hW hS ls (lv_sub hl [1, 2, 0] rfl) hR
        · rw [if_pos c_5] at hR
          have i_5 := congrArg Int32.toInt c_5
          refine lv_iconst (v := (1 : Int32)) hx hb dX0_isLock_20 (by decide) ?_
          subst hR
          exact W.zret (v := (1 : Int32)) hx hb hr (nb01 (Or.inr rfl)) (fun t ht hW9 => ⟨⟨(1 : Int32), Ω, rfl, ⟨⟨rfl, (Or.inr rfl)⟩, rfl⟩, by rw [oB, ht]; exact hW⟩, hS.F ht⟩) hS.2.2 dX0_isLock_21
  have j_8 : (0 : Int32).toInt = 0 := by decide
  exact L2 4000 (0 : Int32) s.heap [] (by omega) hW hS ls (lv_sub hl [1, 2, 0] rfl) hR
set_option maxHeartbeats 4000000 in
set_option maxRecDepth 100000 in
theorem c_X0_plainBits (l : Launch) (G : Gm) (A : Nat → Prop) (Ω : Om) (p0 : Nat) (p0_0 : Blk) (x1 : Int32) (hB_p0 : BlkInv p0_0) (h_p0 : inBlk G Ω p0 p0_0) : Met l yX0_plainBits (wz yX0_plainBits cX0_plainBits 4 (some .int)) ({ frames := 0, cells := 0, slots := 0, locals := 0 } : Room) (va_Pc [.ref p0, .int x1] (oS G A Ω)) (va_Qi (fun (r : Int32) (Ω1 : Om) => r = (f_X0_plainBits p0_0 x1) ∧ Ω1 = Ω) (oB G A) A) 0 0 A := by
  refine Met.ofW (cc := cX0_plainBits) (maxL := 4) (ret := (some .int)) (by decide) rfl ?_
  intro p e s m args below meth c s₁ B hml hv
  obtain ⟨rfl, hW, hK, hN, hZ⟩ := hv
  have hx := B.exec
  have hb := B.bytes
  have hr := B.returns
  have hts : ∀ w ∈ gt, w.before _ s = true := fun w hw => atoms_spec (ws := wz yX0_plainBits cX0_plainBits 4 (some .int)) B.pre w (List.mem_cons_of_mem _ hw)
  have hown : s.vm.findClass RX0 = some m.cls := findClass_of_methodNamed B.named
  have hlocks := B.notSynchronized
  have hA : ∀ q, A q → A q := fun _ h => h
  have hS : va_S A s.heap s.heap [] := va_S.rf
  have hS0 := hS
  have hl := lv_entry ([.ref p0, .int x1]) (n := 4) (Nat.le_of_ble_eq_true rfl)
  rw [lg_entry_eq]
  generalize (lg_sl ([.ref p0, .int x1]) ++ List.replicate (4 - (lg_sl ([.ref p0, .int x1])).length) Slot.unset).toArray = ls at hl ⊢
  have hl : lv_has ls 4 [(0, .ref p0), (1, .int x1)] := hl
  generalize hR : (f_X0_plainBits p0_0 x1) = R
  rw [f_X0_plainBits] at hR
  refine lv_iconst (v := (0 : Int32)) hx hb dX0_plainBits_0 (by decide) ?_
  refine lv_istore_n (lv' := [(2, .int (0 : Int32)), (0, .ref p0), (1, .int x1)]) hx hb dX0_plainBits_1 rfl hl (by decide) rfl (fun ls hl => ?_)
  refine lv_iconst (v := (0 : Int32)) hx hb dX0_plainBits_2 (by decide) ?_
  refine lv_istore_n (lv' := [(3, .int (0 : Int32)), (2, .int (0 : Int32)), (0, .ref p0), (1, .int x1)]) hx hb dX0_plainBits_3 rfl hl (by decide) rfl (fun ls hl => ?_)
  have L4 : ∀ (n_2 : Nat) (x2_1 : Int32) (x3_1 : Int32) (H : Heap) (locs : List Loc), (0 ≤ x3_1.toInt ∧ x3_1.toInt ≤ 12 ∧ 12 - x3_1.toInt < n_2) → oW G A Ω H → va_S A s.heap H locs → ∀ ls : Array Slot, lv_has ls 4 [(0, .ref p0), (1, .int x1), (2, .int x2_1), (3, .int x3_1)] → (f_X0_plainBits_L4 p0_0 x1 n_2 x2_1 x3_1) = R → W p l e (headSpec (wz yX0_plainBits cX0_plainBits 4 (some .int)) ({ frames := 0, cells := 0, slots := 0, locals := 0 } : Room)).room s m ([.ref p0, .int x1] : List Value).toArray below meth c H locs 0 0 (MQ below (va_Qi (fun (r : Int32) (Ω1 : Om) => r = R ∧ Ω1 = Ω) (oB G A) A) ([.ref p0, .int x1] : List Value).toArray s 0 0 A) (F0 m 4 ls []) := by
    intro n_2
    induction n_2 with
    | zero =>
      intro x2_1 x3_1 H locs v_4_0 hW hS ls hl hR
      exfalso
      omega
    | succ n_2 ih4 =>
      intro x2_1 x3_1 H locs v_4_0 hW hS ls hl hR
      rw [f_X0_plainBits_L4] at hR
      refine lv_iload_n hx hb dX0_plainBits_4 rfl (lv_at hl 3 rfl) ?_
      refine lv_aload_n hx hb dX0_plainBits_5 rfl (lv_at hl 0 rfl) ?_
      refine o_get hx hb hts hown hK hW (inBlk_o h_p0) rfl ig0 1 (by decide) fl_X0_52 rfl dX0_plainBits_6 ?_
      try have j_4 : 0 ≤ (p0_0 0 1).toInt ∧ (p0_0 0 1).toInt ≤ 12 := BI_flds (by assumption)
      refine lv_icmp_ge (tgt := 46) hx hb dX0_plainBits_9 (by decide) (fun c_3 => ?_) (fun c_3 => ?_)
      · rw [if_pos c_3] at hR
        have i_3 := rle c_3
        refine lv_iload_n hx hb dX0_plainBits_46 rfl (lv_at hl 2 rfl) ?_
        subst hR
        exact W.iret (v := x2_1) hx hb hr (fun t ht hW9 => ⟨⟨x2_1, Ω, rfl, ⟨rfl, rfl⟩, by rw [oB, ht]; exact hW⟩, hS.F ht⟩) hS.2.2 dX0_plainBits_47
      · rw [if_neg c_3] at hR
        have i_3 := rnle c_3
        refine lv_aload_n hx hb dX0_plainBits_12 rfl (lv_at hl 0 rfl) ?_
        refine o_get hx hb hts hown hK hW (inBlk_o h_p0) rfl ig0 6 (by decide) fl_X0_21 rfl dX0_plainBits_13 ?_
        refine lv_iload_n hx hb dX0_plainBits_16 rfl (lv_at hl 3 rfl) ?_
        refine o_iald hx hb hK hW (inBlk_a3 h_p0) (vp_in_iff.mpr ⟨by omega, by omega⟩) dX0_plainBits_17 ?_
        refine lv_iload_n hx hb dX0_plainBits_18 rfl (lv_at hl 1 rfl) ?_
        try have j_6 : 0 ≤ ((p0_0 4) x3_1.toNatClampNeg).toInt ∧ ((p0_0 4) x3_1.toNatClampNeg).toInt < 6 := BI_owner hB_p0 _
        refine lv_icmp_ne (tgt := 40) hx hb dX0_plainBits_19 (by decide) (fun c_5 => ?_) (fun c_5 => ?_)
        · rw [if_neg c_5] at hR
          have i_5 := rne c_5
          refine lv_iinc (v := (x3_1 + (1 : Int32))) (lv' := [(3, .int (x3_1 + (1 : Int32))), (0, .ref p0), (1, .int x1), (2, .int x2_1)]) hx hb dX0_plainBits_40 hl (k := 3) rfl rfl (by decide) rfl (fun ls hl => ?_)
          refine lv_goto (tgt := 4) hx hb dX0_plainBits_43 (by decide) ?_
          have j_7 : (1 : Int32).toInt = 1 := by decide
          try have j_8 : (x3_1 + (1 : Int32)).toInt = x3_1.toInt + (1 : Int32).toInt := fb_addI (by omega) (by omega)
          exact ih4 x2_1 (x3_1 + (1 : Int32)) H locs (by omega) hW hS ls (lv_sub hl [1, 2, 3, 0] rfl) hR
        · rw [if_pos c_5] at hR
          have i_5 := congrArg Int32.toInt c_5
          refine lv_aload_n hx hb dX0_plainBits_22 rfl (lv_at hl 0 rfl) ?_
          refine o_get hx hb hts hown hK hW (inBlk_o h_p0) rfl ig0 7 (by decide) fl_X0_24 rfl dX0_plainBits_23 ?_
          refine lv_iload_n hx hb dX0_plainBits_26 rfl (lv_at hl 3 rfl) ?_
          refine o_iald hx hb hK hW (inBlk_a4 h_p0) (vp_in_iff.mpr ⟨by omega, by omega⟩) dX0_plainBits_27 ?_
          have j_10 : (0 : Int32).toInt = 0 := by decide
          refine lv_if_ne (tgt := 40) hx hb dX0_plainBits_28 (by decide) (fun c_9 => ?_) (fun c_9 => ?_)
          · rw [if_neg c_9] at hR
            have i_9 := rne c_9
            refine lv_iinc (v := (x3_1 + (1 : Int32))) (lv' := [(3, .int (x3_1 + (1 : Int32))), (0, .ref p0), (1, .int x1), (2, .int x2_1)]) hx hb dX0_plainBits_40 hl (k := 3) rfl rfl (by decide) rfl (fun ls hl => ?_)
            refine lv_goto (tgt := 4) hx hb dX0_plainBits_43 (by decide) ?_
            have j_11 : (1 : Int32).toInt = 1 := by decide
            try have j_12 : (x3_1 + (1 : Int32)).toInt = x3_1.toInt + (1 : Int32).toInt := fb_addI (by omega) (by omega)
            exact ih4 x2_1 (x3_1 + (1 : Int32)) H locs (by omega) hW hS ls (lv_sub hl [1, 2, 3, 0] rfl) hR
          · rw [if_pos c_9] at hR
            have i_9 := congrArg Int32.toInt c_9
            refine lv_iload_n hx hb dX0_plainBits_31 rfl (lv_at hl 2 rfl) ?_
            refine lv_aload_n hx hb dX0_plainBits_32 rfl (lv_at hl 0 rfl) ?_
            refine o_get hx hb hts hown hK hW (inBlk_o h_p0) rfl ig0 10 (by decide) fl_X0_33 rfl dX0_plainBits_33 ?_
            refine lv_iload_n hx hb dX0_plainBits_36 rfl (lv_at hl 3 rfl) ?_
            refine o_iald hx hb hK hW (inBlk_a7 h_p0) (vp_in_iff.mpr ⟨by omega, by omega⟩) dX0_plainBits_37 ?_
            refine lv_ior hx hb dX0_plainBits_38 ?_
            refine lv_istore_n (lv' := [(2, .int (x2_1 ||| ((p0_0 8) x3_1.toNatClampNeg))), (0, .ref p0), (1, .int x1), (3, .int x3_1)]) hx hb dX0_plainBits_39 rfl hl (by decide) rfl (fun ls hl => ?_)
            refine lv_iinc (v := (x3_1 + (1 : Int32))) (lv' := [(3, .int (x3_1 + (1 : Int32))), (2, .int (x2_1 ||| ((p0_0 8) x3_1.toNatClampNeg))), (0, .ref p0), (1, .int x1)]) hx hb dX0_plainBits_40 hl (k := 3) rfl rfl (by decide) rfl (fun ls hl => ?_)
            refine lv_goto (tgt := 4) hx hb dX0_plainBits_43 (by decide) ?_
            have j_13 : (1 : Int32).toInt = 1 := by decide
            try have j_14 : (x3_1 + (1 : Int32)).toInt = x3_1.toInt + (1 : Int32).toInt := fb_addI (by omega) (by omega)
            exact ih4 (x2_1 ||| ((p0_0 8) x3_1.toNatClampNeg)) (x3_1 + (1 : Int32)) H locs (by omega) hW hS ls (lv_sub hl [2, 3, 1, 0] rfl) hR
  have j_15 : (0 : Int32).toInt = 0 := by decide
  exact L4 4000 (0 : Int32) (0 : Int32) s.heap [] (by omega) hW hS ls (lv_sub hl [2, 3, 1, 0] rfl) hR
set_option maxHeartbeats 4000000 in
set_option maxRecDepth 100000 in
theorem c_X1_brokenFields (l : Launch) (G : Gm) (A : Nat → Prop) (Ω : Om) (p0 : Nat) (p1 : Nat) (p0_0 : Fn) (p0_1 : Fn) (p0_2 : Fn) (p0_3 : Fn) (p1_0 : Blk) (hB_p1 : BlkInv p1_0) (h_p0 : inDev G Ω p0 p0_0 p0_1 p0_2 p0_3) (h_p1 : inBlk G Ω p1 p1_0) : Met l yX1_brokenFields (wz yX1_brokenFields cX1_brokenFields 4 (some .int)) ({ frames := 0, cells := 0, slots := 0, locals := 0 } : Room) (va_Pc [.ref p0, .ref p1] (oS G A Ω)) (va_Qi (fun (r : Int32) (Ω1 : Om) => r = (f_X1_brokenFields p0_3 p1_0) ∧ Ω1 = Ω) (oB G A) A) 0 0 A := by
  refine Met.ofW (cc := cX1_brokenFields) (maxL := 4) (ret := (some .int)) (by decide) rfl ?_
  intro p e s m args below meth c s₁ B hml hv
  obtain ⟨rfl, hW, hK, hN, hZ⟩ := hv
  have hx := B.exec
  have hb := B.bytes
  have hr := B.returns
  have hts : ∀ w ∈ gt, w.before _ s = true := fun w hw => atoms_spec (ws := wz yX1_brokenFields cX1_brokenFields 4 (some .int)) B.pre w (List.mem_cons_of_mem _ hw)
  have hown : s.vm.findClass RX1 = some m.cls := findClass_of_methodNamed B.named
  have hlocks := B.notSynchronized
  have hA : ∀ q, A q → A q := fun _ h => h
  have hS : va_S A s.heap s.heap [] := va_S.rf
  have hS0 := hS
  have hl := lv_entry ([.ref p0, .ref p1]) (n := 4) (Nat.le_of_ble_eq_true rfl)
  rw [lg_entry_eq]
  generalize (lg_sl ([.ref p0, .ref p1]) ++ List.replicate (4 - (lg_sl ([.ref p0, .ref p1])).length) Slot.unset).toArray = ls at hl ⊢
  have hl : lv_has ls 4 [(0, .ref p0), (1, .ref p1)] := hl
  generalize hR : (f_X1_brokenFields p0_3 p1_0) = R
  rw [f_X1_brokenFields] at hR
  refine lv_iconst (v := (0 : Int32)) hx hb dX1_brokenFields_0 (by decide) ?_
  refine lv_istore_n (lv' := [(2, .int (0 : Int32)), (0, .ref p0), (1, .ref p1)]) hx hb dX1_brokenFields_1 rfl hl (by decide) rfl (fun ls hl => ?_)
  refine lv_iconst (v := (0 : Int32)) hx hb dX1_brokenFields_2 (by decide) ?_
  refine lv_istore_n (lv' := [(3, .int (0 : Int32)), (2, .int (0 : Int32)), (0, .ref p0), (1, .ref p1)]) hx hb dX1_brokenFields_3 rfl hl (by decide) rfl (fun ls hl => ?_)
  have L4 : ∀ (n_2 : Nat) (x2_1 : Int32) (x3_1 : Int32) (H : Heap) (locs : List Loc), (0 ≤ x3_1.toInt ∧ x3_1.toInt ≤ 12 ∧ 12 - x3_1.toInt < n_2) → oW G A Ω H → va_S A s.heap H locs → ∀ ls : Array Slot, lv_has ls 4 [(0, .ref p0), (1, .ref p1), (2, .int x2_1), (3, .int x3_1)] → (f_X1_brokenFields_L4 p0_3 p1_0 n_2 x2_1 x3_1) = R → W p l e (headSpec (wz yX1_brokenFields cX1_brokenFields 4 (some .int)) ({ frames := 0, cells := 0, slots := 0, locals := 0 } : Room)).room s m ([.ref p0, .ref p1] : List Value).toArray below meth c H locs 0 0 (MQ below (va_Qi (fun (r : Int32) (Ω1 : Om) => r = R ∧ Ω1 = Ω) (oB G A) A) ([.ref p0, .ref p1] : List Value).toArray s 0 0 A) (F0 m 4 ls []) := by
    intro n_2
    induction n_2 with
    | zero =>
      intro x2_1 x3_1 H locs v_4_0 hW hS ls hl hR
      exfalso
      omega
    | succ n_2 ih4 =>
      intro x2_1 x3_1 H locs v_4_0 hW hS ls hl hR
      rw [f_X1_brokenFields_L4] at hR
      refine lv_iload_n hx hb dX1_brokenFields_4 rfl (lv_at hl 3 rfl) ?_
      refine lv_aload_n hx hb dX1_brokenFields_5 rfl (lv_at hl 1 rfl) ?_
      refine o_get hx hb hts hown hK hW (inBlk_o h_p1) rfl ig0 1 (by decide) fl_X1_36 rfl dX1_brokenFields_6 ?_
      try have j_4 : 0 ≤ (p1_0 0 1).toInt ∧ (p1_0 0 1).toInt ≤ 12 := BI_flds (by assumption)
      refine lv_icmp_ge (tgt := 36) hx hb dX1_brokenFields_9 (by decide) (fun c_3 => ?_) (fun c_3 => ?_)
      · rw [if_pos c_3] at hR
        have i_3 := rle c_3
        refine lv_iload_n hx hb dX1_brokenFields_36 rfl (lv_at hl 2 rfl) ?_
        subst hR
        exact W.iret (v := x2_1) hx hb hr (fun t ht hW9 => ⟨⟨x2_1, Ω, rfl, ⟨rfl, rfl⟩, by rw [oB, ht]; exact hW⟩, hS.F ht⟩) hS.2.2 dX1_brokenFields_37
      · rw [if_neg c_3] at hR
        have i_3 := rnle c_3
        refine lv_aload_n hx hb dX1_brokenFields_12 rfl (lv_at hl 0 rfl) ?_
        refine o_get hx hb hts hown hK hW (inDev_o h_p0) rfl ig1 3 (by decide) fl_X1_22 rfl dX1_brokenFields_13 ?_
        refine lv_iload_n hx hb dX1_brokenFields_16 rfl (lv_at hl 3 rfl) ?_
        refine o_iald hx hb hK hW (inDev_a3 h_p0) (vp_in_iff.mpr ⟨by omega, by omega⟩) dX1_brokenFields_17 ?_
        refine lv_aload_n hx hb dX1_brokenFields_18 rfl (lv_at hl 1 rfl) ?_
        refine o_get hx hb hts hown hK hW (inBlk_o h_p1) rfl ig0 7 (by decide) fl_X1_31 rfl dX1_brokenFields_19 ?_
        refine lv_iload_n hx hb dX1_brokenFields_22 rfl (lv_at hl 3 rfl) ?_
        refine o_iald hx hb hK hW (inBlk_a4 h_p1) (vp_in_iff.mpr ⟨by omega, by omega⟩) dX1_brokenFields_23 ?_
        refine lv_icmp_eq (tgt := 30) hx hb dX1_brokenFields_24 (by decide) (fun c_5 => ?_) (fun c_5 => ?_)
        · rw [if_pos c_5] at hR
          have i_5 := congrArg Int32.toInt c_5
          refine lv_iinc (v := (x3_1 + (1 : Int32))) (lv' := [(3, .int (x3_1 + (1 : Int32))), (0, .ref p0), (1, .ref p1), (2, .int x2_1)]) hx hb dX1_brokenFields_30 hl (k := 3) rfl rfl (by decide) rfl (fun ls hl => ?_)
          refine lv_goto (tgt := 4) hx hb dX1_brokenFields_33 (by decide) ?_
          have j_6 : (1 : Int32).toInt = 1 := by decide
          try have j_7 : (x3_1 + (1 : Int32)).toInt = x3_1.toInt + (1 : Int32).toInt := fb_addI (by omega) (by omega)
          exact ih4 x2_1 (x3_1 + (1 : Int32)) H locs (by omega) hW hS ls (lv_sub hl [1, 2, 3, 0] rfl) hR
        · rw [if_neg c_5] at hR
          have i_5 := rne c_5
          refine lv_iinc (v := (x2_1 + (1 : Int32))) (lv' := [(2, .int (x2_1 + (1 : Int32))), (0, .ref p0), (1, .ref p1), (3, .int x3_1)]) hx hb dX1_brokenFields_27 hl (k := 2) rfl rfl (by decide) rfl (fun ls hl => ?_)
          refine lv_iinc (v := (x3_1 + (1 : Int32))) (lv' := [(3, .int (x3_1 + (1 : Int32))), (2, .int (x2_1 + (1 : Int32))), (0, .ref p0), (1, .ref p1)]) hx hb dX1_brokenFields_30 hl (k := 3) rfl rfl (by decide) rfl (fun ls hl => ?_)
          refine lv_goto (tgt := 4) hx hb dX1_brokenFields_33 (by decide) ?_
          have j_8 : (1 : Int32).toInt = 1 := by decide
          try have j_9 : (x2_1 + (1 : Int32)).toInt = x2_1.toInt + (1 : Int32).toInt := fb_addI (by omega) (by omega)
          try have j_10 : (x3_1 + (1 : Int32)).toInt = x3_1.toInt + (1 : Int32).toInt := fb_addI (by omega) (by omega)
          exact ih4 (x2_1 + (1 : Int32)) (x3_1 + (1 : Int32)) H locs (by omega) hW hS ls (lv_sub hl [2, 3, 1, 0] rfl) hR
  have j_11 : (0 : Int32).toInt = 0 := by decide
  exact L4 4000 (0 : Int32) (0 : Int32) s.heap [] (by omega) hW hS ls (lv_sub hl [2, 3, 1, 0] rfl) hR
set_option maxHeartbeats 4000000 in
set_option maxRecDepth 100000 in
theorem c_J6_bitCount_0f7a4 (l : Launch) (G : Gm) (A : Nat → Prop) (Ω : Om) (x0 : Int32) : Met l yJ6_bitCount_0f7a4 (wz yJ6_bitCount_0f7a4 cJ6_bitCount_0f7a4 1 (some .int)) ({ frames := 0, cells := 0, slots := 0, locals := 0 } : Room) (va_Pc [.int x0] (oS G A Ω)) (va_Qi (fun (r : Int32) (Ω1 : Om) => r = (f_J6_bitCount_0f7a4 x0) ∧ Ω1 = Ω) (oB G A) A) 0 0 A := by
  refine Met.ofW (cc := cJ6_bitCount_0f7a4) (maxL := 1) (ret := (some .int)) (by decide) rfl ?_
  intro p e s m args below meth c s₁ B hml hv
  obtain ⟨rfl, hW, hK, hN, hZ⟩ := hv
  have hx := B.exec
  have hb := B.bytes
  have hr := B.returns
  have hts : ∀ w ∈ gt, w.before _ s = true := fun w hw => atoms_spec (ws := wz yJ6_bitCount_0f7a4 cJ6_bitCount_0f7a4 1 (some .int)) B.pre w (List.mem_cons_of_mem _ hw)
  have hown : s.vm.findClass RJ6 = some m.cls := findClass_of_methodNamed B.named
  have hlocks := B.notSynchronized
  have hA : ∀ q, A q → A q := fun _ h => h
  have hS : va_S A s.heap s.heap [] := va_S.rf
  have hS0 := hS
  have hl := lv_entry ([.int x0]) (n := 1) (Nat.le_of_ble_eq_true rfl)
  rw [lg_entry_eq]
  generalize (lg_sl ([.int x0]) ++ List.replicate (1 - (lg_sl ([.int x0])).length) Slot.unset).toArray = ls at hl ⊢
  have hl : lv_has ls 1 [(0, .int x0)] := hl
  generalize hR : (f_J6_bitCount_0f7a4 x0) = R
  rw [f_J6_bitCount_0f7a4] at hR
  refine lv_iload_n hx hb dJ6_bitCount_0f7a4_0 rfl (lv_at hl 0 rfl) ?_
  refine lv_iload_n hx hb dJ6_bitCount_0f7a4_1 rfl (lv_at hl 0 rfl) ?_
  refine lv_iconst (v := (1 : Int32)) hx hb dJ6_bitCount_0f7a4_2 (by decide) ?_
  refine lv_iushr hx hb dJ6_bitCount_0f7a4_3 rfl ?_
  refine lv_ldcw (v := (1431655765 : Int32)) hx hb hown (hts _ wm_c265) dJ6_bitCount_0f7a4_4 ?_
  refine lv_iand hx hb dJ6_bitCount_0f7a4_7 ?_
  refine lv_isub hx hb dJ6_bitCount_0f7a4_8 ?_
  refine lv_istore_n (lv' := [(0, .int (x0 - ((x0.toUInt32 >>> ((1 : Int32).toUInt32 &&& Int32.toUInt32 31)).toInt32 &&& (1431655765 : Int32))))]) hx hb dJ6_bitCount_0f7a4_9 rfl hl (by decide) rfl (fun ls hl => ?_)
  refine lv_iload_n hx hb dJ6_bitCount_0f7a4_10 rfl (lv_at hl 0 rfl) ?_
  refine lv_ldcw (v := (858993459 : Int32)) hx hb hown (hts _ wm_c266) dJ6_bitCount_0f7a4_11 ?_
  refine lv_iand hx hb dJ6_bitCount_0f7a4_14 ?_
  refine lv_iload_n hx hb dJ6_bitCount_0f7a4_15 rfl (lv_at hl 0 rfl) ?_
  refine lv_iconst (v := (2 : Int32)) hx hb dJ6_bitCount_0f7a4_16 (by decide) ?_
  refine lv_iushr hx hb dJ6_bitCount_0f7a4_17 rfl ?_
  refine lv_ldcw (v := (858993459 : Int32)) hx hb hown (hts _ wm_c266) dJ6_bitCount_0f7a4_18 ?_
  refine lv_iand hx hb dJ6_bitCount_0f7a4_21 ?_
  refine lv_iadd hx hb dJ6_bitCount_0f7a4_22 ?_
  refine lv_istore_n (lv' := [(0, .int (((x0 - ((x0.toUInt32 >>> ((1 : Int32).toUInt32 &&& Int32.toUInt32 31)).toInt32 &&& (1431655765 : Int32))) &&& (858993459 : Int32)) + (((x0 - ((x0.toUInt32 >>> ((1 : Int32).toUInt32 &&& Int32.toUInt32 31)).toInt32 &&& (1431655765 : Int32))).toUInt32 >>> ((2 : Int32).toUInt32 &&& Int32.toUInt32 31)).toInt32 &&& (858993459 : Int32))))]) hx hb dJ6_bitCount_0f7a4_23 rfl hl (by decide) rfl (fun ls hl => ?_)
  refine lv_iload_n hx hb dJ6_bitCount_0f7a4_24 rfl (lv_at hl 0 rfl) ?_
  refine lv_iload_n hx hb dJ6_bitCount_0f7a4_25 rfl (lv_at hl 0 rfl) ?_
  refine lv_iconst (v := (4 : Int32)) hx hb dJ6_bitCount_0f7a4_26 (by decide) ?_
  refine lv_iushr hx hb dJ6_bitCount_0f7a4_27 rfl ?_
  refine lv_iadd hx hb dJ6_bitCount_0f7a4_28 ?_
  refine lv_ldcw (v := (252645135 : Int32)) hx hb hown (hts _ wm_c267) dJ6_bitCount_0f7a4_29 ?_
  refine lv_iand hx hb dJ6_bitCount_0f7a4_32 ?_
  refine lv_istore_n (lv' := [(0, .int (((((x0 - ((x0.toUInt32 >>> ((1 : Int32).toUInt32 &&& Int32.toUInt32 31)).toInt32 &&& (1431655765 : Int32))) &&& (858993459 : Int32)) + (((x0 - ((x0.toUInt32 >>> ((1 : Int32).toUInt32 &&& Int32.toUInt32 31)).toInt32 &&& (1431655765 : Int32))).toUInt32 >>> ((2 : Int32).toUInt32 &&& Int32.toUInt32 31)).toInt32 &&& (858993459 : Int32))) + ((((x0 - ((x0.toUInt32 >>> ((1 : Int32).toUInt32 &&& Int32.toUInt32 31)).toInt32 &&& (1431655765 : Int32))) &&& (858993459 : Int32)) + (((x0 - ((x0.toUInt32 >>> ((1 : Int32).toUInt32 &&& Int32.toUInt32 31)).toInt32 &&& (1431655765 : Int32))).toUInt32 >>> ((2 : Int32).toUInt32 &&& Int32.toUInt32 31)).toInt32 &&& (858993459 : Int32))).toUInt32 >>> ((4 : Int32).toUInt32 &&& Int32.toUInt32 31)).toInt32) &&& (252645135 : Int32)))]) hx hb dJ6_bitCount_0f7a4_33 rfl hl (by decide) rfl (fun ls hl => ?_)
  refine lv_iload_n hx hb dJ6_bitCount_0f7a4_34 rfl (lv_at hl 0 rfl) ?_
  refine lv_iload_n hx hb dJ6_bitCount_0f7a4_35 rfl (lv_at hl 0 rfl) ?_
  refine lv_bipush (v := (8 : Int32)) hx hb dJ6_bitCount_0f7a4_36 (by decide) ?_
  refine lv_iushr hx hb dJ6_bitCount_0f7a4_38 rfl ?_
  refine lv_iadd hx hb dJ6_bitCount_0f7a4_39 ?_
  refine lv_istore_n (lv' := [(0, .int ((((((x0 - ((x0.toUInt32 >>> ((1 : Int32).toUInt32 &&& Int32.toUInt32 31)).toInt32 &&& (1431655765 : Int32))) &&& (858993459 : Int32)) + (((x0 - ((x0.toUInt32 >>> ((1 : Int32).toUInt32 &&& Int32.toUInt32 31)).toInt32 &&& (1431655765 : Int32))).toUInt32 >>> ((2 : Int32).toUInt32 &&& Int32.toUInt32 31)).toInt32 &&& (858993459 : Int32))) + ((((x0 - ((x0.toUInt32 >>> ((1 : Int32).toUInt32 &&& Int32.toUInt32 31)).toInt32 &&& (1431655765 : Int32))) &&& (858993459 : Int32)) + (((x0 - ((x0.toUInt32 >>> ((1 : Int32).toUInt32 &&& Int32.toUInt32 31)).toInt32 &&& (1431655765 : Int32))).toUInt32 >>> ((2 : Int32).toUInt32 &&& Int32.toUInt32 31)).toInt32 &&& (858993459 : Int32))).toUInt32 >>> ((4 : Int32).toUInt32 &&& Int32.toUInt32 31)).toInt32) &&& (252645135 : Int32)) + ((((((x0 - ((x0.toUInt32 >>> ((1 : Int32).toUInt32 &&& Int32.toUInt32 31)).toInt32 &&& (1431655765 : Int32))) &&& (858993459 : Int32)) + (((x0 - ((x0.toUInt32 >>> ((1 : Int32).toUInt32 &&& Int32.toUInt32 31)).toInt32 &&& (1431655765 : Int32))).toUInt32 >>> ((2 : Int32).toUInt32 &&& Int32.toUInt32 31)).toInt32 &&& (858993459 : Int32))) + ((((x0 - ((x0.toUInt32 >>> ((1 : Int32).toUInt32 &&& Int32.toUInt32 31)).toInt32 &&& (1431655765 : Int32))) &&& (858993459 : Int32)) + (((x0 - ((x0.toUInt32 >>> ((1 : Int32).toUInt32 &&& Int32.toUInt32 31)).toInt32 &&& (1431655765 : Int32))).toUInt32 >>> ((2 : Int32).toUInt32 &&& Int32.toUInt32 31)).toInt32 &&& (858993459 : Int32))).toUInt32 >>> ((4 : Int32).toUInt32 &&& Int32.toUInt32 31)).toInt32) &&& (252645135 : Int32)).toUInt32 >>> ((8 : Int32).toUInt32 &&& Int32.toUInt32 31)).toInt32))]) hx hb dJ6_bitCount_0f7a4_40 rfl hl (by decide) rfl (fun ls hl => ?_)
  refine lv_iload_n hx hb dJ6_bitCount_0f7a4_41 rfl (lv_at hl 0 rfl) ?_
  refine lv_iload_n hx hb dJ6_bitCount_0f7a4_42 rfl (lv_at hl 0 rfl) ?_
  refine lv_bipush (v := (16 : Int32)) hx hb dJ6_bitCount_0f7a4_43 (by decide) ?_
  refine lv_iushr hx hb dJ6_bitCount_0f7a4_45 rfl ?_
  refine lv_iadd hx hb dJ6_bitCount_0f7a4_46 ?_
  refine lv_istore_n (lv' := [(0, .int (((((((x0 - ((x0.toUInt32 >>> ((1 : Int32).toUInt32 &&& Int32.toUInt32 31)).toInt32 &&& (1431655765 : Int32))) &&& (858993459 : Int32)) + (((x0 - ((x0.toUInt32 >>> ((1 : Int32).toUInt32 &&& Int32.toUInt32 31)).toInt32 &&& (1431655765 : Int32))).toUInt32 >>> ((2 : Int32).toUInt32 &&& Int32.toUInt32 31)).toInt32 &&& (858993459 : Int32))) + ((((x0 - ((x0.toUInt32 >>> ((1 : Int32).toUInt32 &&& Int32.toUInt32 31)).toInt32 &&& (1431655765 : Int32))) &&& (858993459 : Int32)) + (((x0 - ((x0.toUInt32 >>> ((1 : Int32).toUInt32 &&& Int32.toUInt32 31)).toInt32 &&& (1431655765 : Int32))).toUInt32 >>> ((2 : Int32).toUInt32 &&& Int32.toUInt32 31)).toInt32 &&& (858993459 : Int32))).toUInt32 >>> ((4 : Int32).toUInt32 &&& Int32.toUInt32 31)).toInt32) &&& (252645135 : Int32)) + ((((((x0 - ((x0.toUInt32 >>> ((1 : Int32).toUInt32 &&& Int32.toUInt32 31)).toInt32 &&& (1431655765 : Int32))) &&& (858993459 : Int32)) + (((x0 - ((x0.toUInt32 >>> ((1 : Int32).toUInt32 &&& Int32.toUInt32 31)).toInt32 &&& (1431655765 : Int32))).toUInt32 >>> ((2 : Int32).toUInt32 &&& Int32.toUInt32 31)).toInt32 &&& (858993459 : Int32))) + ((((x0 - ((x0.toUInt32 >>> ((1 : Int32).toUInt32 &&& Int32.toUInt32 31)).toInt32 &&& (1431655765 : Int32))) &&& (858993459 : Int32)) + (((x0 - ((x0.toUInt32 >>> ((1 : Int32).toUInt32 &&& Int32.toUInt32 31)).toInt32 &&& (1431655765 : Int32))).toUInt32 >>> ((2 : Int32).toUInt32 &&& Int32.toUInt32 31)).toInt32 &&& (858993459 : Int32))).toUInt32 >>> ((4 : Int32).toUInt32 &&& Int32.toUInt32 31)).toInt32) &&& (252645135 : Int32)).toUInt32 >>> ((8 : Int32).toUInt32 &&& Int32.toUInt32 31)).toInt32) + (((((((x0 - ((x0.toUInt32 >>> ((1 : Int32).toUInt32 &&& Int32.toUInt32 31)).toInt32 &&& (1431655765 : Int32))) &&& (858993459 : Int32)) + (((x0 - ((x0.toUInt32 >>> ((1 : Int32).toUInt32 &&& Int32.toUInt32 31)).toInt32 &&& (1431655765 : Int32))).toUInt32 >>> ((2 : Int32).toUInt32 &&& Int32.toUInt32 31)).toInt32 &&& (858993459 : Int32))) + ((((x0 - ((x0.toUInt32 >>> ((1 : Int32).toUInt32 &&& Int32.toUInt32 31)).toInt32 &&& (1431655765 : Int32))) &&& (858993459 : Int32)) + (((x0 - ((x0.toUInt32 >>> ((1 : Int32).toUInt32 &&& Int32.toUInt32 31)).toInt32 &&& (1431655765 : Int32))).toUInt32 >>> ((2 : Int32).toUInt32 &&& Int32.toUInt32 31)).toInt32 &&& (858993459 : Int32))).toUInt32 >>> ((4 : Int32).toUInt32 &&& Int32.toUInt32 31)).toInt32) &&& (252645135 : Int32)) + ((((((x0 - ((x0.toUInt32 >>> ((1 : Int32).toUInt32 &&& Int32.toUInt32 31)).toInt32 &&& (1431655765 : Int32))) &&& (858993459 : Int32)) + (((x0 - ((x0.toUInt32 >>> ((1 : Int32).toUInt32 &&& Int32.toUInt32 31)).toInt32 &&& (1431655765 : Int32))).toUInt32 >>> ((2 : Int32).toUInt32 &&& Int32.toUInt32 31)).toInt32 &&& (858993459 : Int32))) + ((((x0 - ((x0.toUInt32 >>> ((1 : Int32).toUInt32 &&& Int32.toUInt32 31)).toInt32 &&& (1431655765 : Int32))) &&& (858993459 : Int32)) + (((x0 - ((x0.toUInt32 >>> ((1 : Int32).toUInt32 &&& Int32.toUInt32 31)).toInt32 &&& (1431655765 : Int32))).toUInt32 >>> ((2 : Int32).toUInt32 &&& Int32.toUInt32 31)).toInt32 &&& (858993459 : Int32))).toUInt32 >>> ((4 : Int32).toUInt32 &&& Int32.toUInt32 31)).toInt32) &&& (252645135 : Int32)).toUInt32 >>> ((8 : Int32).toUInt32 &&& Int32.toUInt32 31)).toInt32).toUInt32 >>> ((16 : Int32).toUInt32 &&& Int32.toUInt32 31)).toInt32))]) hx hb dJ6_bitCount_0f7a4_47 rfl hl (by decide) rfl (fun ls hl => ?_)
  refine lv_iload_n hx hb dJ6_bitCount_0f7a4_48 rfl (lv_at hl 0 rfl) ?_
  refine lv_bipush (v := (63 : Int32)) hx hb dJ6_bitCount_0f7a4_49 (by decide) ?_
  refine lv_iand hx hb dJ6_bitCount_0f7a4_51 ?_
  subst hR
  exact W.iret (v := ((((((((x0 - ((x0.toUInt32 >>> ((1 : Int32).toUInt32 &&& Int32.toUInt32 31)).toInt32 &&& (1431655765 : Int32))) &&& (858993459 : Int32)) + (((x0 - ((x0.toUInt32 >>> ((1 : Int32).toUInt32 &&& Int32.toUInt32 31)).toInt32 &&& (1431655765 : Int32))).toUInt32 >>> ((2 : Int32).toUInt32 &&& Int32.toUInt32 31)).toInt32 &&& (858993459 : Int32))) + ((((x0 - ((x0.toUInt32 >>> ((1 : Int32).toUInt32 &&& Int32.toUInt32 31)).toInt32 &&& (1431655765 : Int32))) &&& (858993459 : Int32)) + (((x0 - ((x0.toUInt32 >>> ((1 : Int32).toUInt32 &&& Int32.toUInt32 31)).toInt32 &&& (1431655765 : Int32))).toUInt32 >>> ((2 : Int32).toUInt32 &&& Int32.toUInt32 31)).toInt32 &&& (858993459 : Int32))).toUInt32 >>> ((4 : Int32).toUInt32 &&& Int32.toUInt32 31)).toInt32) &&& (252645135 : Int32)) + ((((((x0 - ((x0.toUInt32 >>> ((1 : Int32).toUInt32 &&& Int32.toUInt32 31)).toInt32 &&& (1431655765 : Int32))) &&& (858993459 : Int32)) + (((x0 - ((x0.toUInt32 >>> ((1 : Int32).toUInt32 &&& Int32.toUInt32 31)).toInt32 &&& (1431655765 : Int32))).toUInt32 >>> ((2 : Int32).toUInt32 &&& Int32.toUInt32 31)).toInt32 &&& (858993459 : Int32))) + ((((x0 - ((x0.toUInt32 >>> ((1 : Int32).toUInt32 &&& Int32.toUInt32 31)).toInt32 &&& (1431655765 : Int32))) &&& (858993459 : Int32)) + (((x0 - ((x0.toUInt32 >>> ((1 : Int32).toUInt32 &&& Int32.toUInt32 31)).toInt32 &&& (1431655765 : Int32))).toUInt32 >>> ((2 : Int32).toUInt32 &&& Int32.toUInt32 31)).toInt32 &&& (858993459 : Int32))).toUInt32 >>> ((4 : Int32).toUInt32 &&& Int32.toUInt32 31)).toInt32) &&& (252645135 : Int32)).toUInt32 >>> ((8 : Int32).toUInt32 &&& Int32.toUInt32 31)).toInt32) + (((((((x0 - ((x0.toUInt32 >>> ((1 : Int32).toUInt32 &&& Int32.toUInt32 31)).toInt32 &&& (1431655765 : Int32))) &&& (858993459 : Int32)) + (((x0 - ((x0.toUInt32 >>> ((1 : Int32).toUInt32 &&& Int32.toUInt32 31)).toInt32 &&& (1431655765 : Int32))).toUInt32 >>> ((2 : Int32).toUInt32 &&& Int32.toUInt32 31)).toInt32 &&& (858993459 : Int32))) + ((((x0 - ((x0.toUInt32 >>> ((1 : Int32).toUInt32 &&& Int32.toUInt32 31)).toInt32 &&& (1431655765 : Int32))) &&& (858993459 : Int32)) + (((x0 - ((x0.toUInt32 >>> ((1 : Int32).toUInt32 &&& Int32.toUInt32 31)).toInt32 &&& (1431655765 : Int32))).toUInt32 >>> ((2 : Int32).toUInt32 &&& Int32.toUInt32 31)).toInt32 &&& (858993459 : Int32))).toUInt32 >>> ((4 : Int32).toUInt32 &&& Int32.toUInt32 31)).toInt32) &&& (252645135 : Int32)) + ((((((x0 - ((x0.toUInt32 >>> ((1 : Int32).toUInt32 &&& Int32.toUInt32 31)).toInt32 &&& (1431655765 : Int32))) &&& (858993459 : Int32)) + (((x0 - ((x0.toUInt32 >>> ((1 : Int32).toUInt32 &&& Int32.toUInt32 31)).toInt32 &&& (1431655765 : Int32))).toUInt32 >>> ((2 : Int32).toUInt32 &&& Int32.toUInt32 31)).toInt32 &&& (858993459 : Int32))) + ((((x0 - ((x0.toUInt32 >>> ((1 : Int32).toUInt32 &&& Int32.toUInt32 31)).toInt32 &&& (1431655765 : Int32))) &&& (858993459 : Int32)) + (((x0 - ((x0.toUInt32 >>> ((1 : Int32).toUInt32 &&& Int32.toUInt32 31)).toInt32 &&& (1431655765 : Int32))).toUInt32 >>> ((2 : Int32).toUInt32 &&& Int32.toUInt32 31)).toInt32 &&& (858993459 : Int32))).toUInt32 >>> ((4 : Int32).toUInt32 &&& Int32.toUInt32 31)).toInt32) &&& (252645135 : Int32)).toUInt32 >>> ((8 : Int32).toUInt32 &&& Int32.toUInt32 31)).toInt32).toUInt32 >>> ((16 : Int32).toUInt32 &&& Int32.toUInt32 31)).toInt32) &&& (63 : Int32))) hx hb hr (fun t ht hW9 => ⟨⟨((((((((x0 - ((x0.toUInt32 >>> ((1 : Int32).toUInt32 &&& Int32.toUInt32 31)).toInt32 &&& (1431655765 : Int32))) &&& (858993459 : Int32)) + (((x0 - ((x0.toUInt32 >>> ((1 : Int32).toUInt32 &&& Int32.toUInt32 31)).toInt32 &&& (1431655765 : Int32))).toUInt32 >>> ((2 : Int32).toUInt32 &&& Int32.toUInt32 31)).toInt32 &&& (858993459 : Int32))) + ((((x0 - ((x0.toUInt32 >>> ((1 : Int32).toUInt32 &&& Int32.toUInt32 31)).toInt32 &&& (1431655765 : Int32))) &&& (858993459 : Int32)) + (((x0 - ((x0.toUInt32 >>> ((1 : Int32).toUInt32 &&& Int32.toUInt32 31)).toInt32 &&& (1431655765 : Int32))).toUInt32 >>> ((2 : Int32).toUInt32 &&& Int32.toUInt32 31)).toInt32 &&& (858993459 : Int32))).toUInt32 >>> ((4 : Int32).toUInt32 &&& Int32.toUInt32 31)).toInt32) &&& (252645135 : Int32)) + ((((((x0 - ((x0.toUInt32 >>> ((1 : Int32).toUInt32 &&& Int32.toUInt32 31)).toInt32 &&& (1431655765 : Int32))) &&& (858993459 : Int32)) + (((x0 - ((x0.toUInt32 >>> ((1 : Int32).toUInt32 &&& Int32.toUInt32 31)).toInt32 &&& (1431655765 : Int32))).toUInt32 >>> ((2 : Int32).toUInt32 &&& Int32.toUInt32 31)).toInt32 &&& (858993459 : Int32))) + ((((x0 - ((x0.toUInt32 >>> ((1 : Int32).toUInt32 &&& Int32.toUInt32 31)).toInt32 &&& (1431655765 : Int32))) &&& (858993459 : Int32)) + (((x0 - ((x0.toUInt32 >>> ((1 : Int32).toUInt32 &&& Int32.toUInt32 31)).toInt32 &&& (1431655765 : Int32))).toUInt32 >>> ((2 : Int32).toUInt32 &&& Int32.toUInt32 31)).toInt32 &&& (858993459 : Int32))).toUInt32 >>> ((4 : Int32).toUInt32 &&& Int32.toUInt32 31)).toInt32) &&& (252645135 : Int32)).toUInt32 >>> ((8 : Int32).toUInt32 &&& Int32.toUInt32 31)).toInt32) + (((((((x0 - ((x0.toUInt32 >>> ((1 : Int32).toUInt32 &&& Int32.toUInt32 31)).toInt32 &&& (1431655765 : Int32))) &&& (858993459 : Int32)) + (((x0 - ((x0.toUInt32 >>> ((1 : Int32).toUInt32 &&& Int32.toUInt32 31)).toInt32 &&& (1431655765 : Int32))).toUInt32 >>> ((2 : Int32).toUInt32 &&& Int32.toUInt32 31)).toInt32 &&& (858993459 : Int32))) + ((((x0 - ((x0.toUInt32 >>> ((1 : Int32).toUInt32 &&& Int32.toUInt32 31)).toInt32 &&& (1431655765 : Int32))) &&& (858993459 : Int32)) + (((x0 - ((x0.toUInt32 >>> ((1 : Int32).toUInt32 &&& Int32.toUInt32 31)).toInt32 &&& (1431655765 : Int32))).toUInt32 >>> ((2 : Int32).toUInt32 &&& Int32.toUInt32 31)).toInt32 &&& (858993459 : Int32))).toUInt32 >>> ((4 : Int32).toUInt32 &&& Int32.toUInt32 31)).toInt32) &&& (252645135 : Int32)) + ((((((x0 - ((x0.toUInt32 >>> ((1 : Int32).toUInt32 &&& Int32.toUInt32 31)).toInt32 &&& (1431655765 : Int32))) &&& (858993459 : Int32)) + (((x0 - ((x0.toUInt32 >>> ((1 : Int32).toUInt32 &&& Int32.toUInt32 31)).toInt32 &&& (1431655765 : Int32))).toUInt32 >>> ((2 : Int32).toUInt32 &&& Int32.toUInt32 31)).toInt32 &&& (858993459 : Int32))) + ((((x0 - ((x0.toUInt32 >>> ((1 : Int32).toUInt32 &&& Int32.toUInt32 31)).toInt32 &&& (1431655765 : Int32))) &&& (858993459 : Int32)) + (((x0 - ((x0.toUInt32 >>> ((1 : Int32).toUInt32 &&& Int32.toUInt32 31)).toInt32 &&& (1431655765 : Int32))).toUInt32 >>> ((2 : Int32).toUInt32 &&& Int32.toUInt32 31)).toInt32 &&& (858993459 : Int32))).toUInt32 >>> ((4 : Int32).toUInt32 &&& Int32.toUInt32 31)).toInt32) &&& (252645135 : Int32)).toUInt32 >>> ((8 : Int32).toUInt32 &&& Int32.toUInt32 31)).toInt32).toUInt32 >>> ((16 : Int32).toUInt32 &&& Int32.toUInt32 31)).toInt32) &&& (63 : Int32)), Ω, rfl, ⟨rfl, rfl⟩, by rw [oB, ht]; exact hW⟩, hS.F ht⟩) hS.2.2 dJ6_bitCount_0f7a4_52
set_option maxHeartbeats 4000000 in
set_option maxRecDepth 100000 in
theorem c_X0_bitsOfFields (l : Launch) (G : Gm) (A : Nat → Prop) (Ω : Om) (p0 : Nat) (p0_0 : Blk) (hB_p0 : BlkInv p0_0) (h_p0 : inBlk G Ω p0 p0_0) : Met l yX0_bitsOfFields (wz yX0_bitsOfFields cX0_bitsOfFields 3 (some .int)) ({ frames := 1, cells := 0, slots := 0, locals := 20 } : Room) (va_Pc [.ref p0] (oS G A Ω)) (va_Qi (fun (r : Int32) (Ω1 : Om) => r = (f_X0_bitsOfFields p0_0) ∧ Ω1 = Ω) (oB G A) A) 0 0 A := by
  refine Met.ofW (cc := cX0_bitsOfFields) (maxL := 3) (ret := (some .int)) (by decide) rfl ?_
  intro p e s m args below meth c s₁ B hml hv
  obtain ⟨rfl, hW, hK, hN, hZ⟩ := hv
  have hx := B.exec
  have hb := B.bytes
  have hr := B.returns
  have hts : ∀ w ∈ gt, w.before _ s = true := fun w hw => atoms_spec (ws := wz yX0_bitsOfFields cX0_bitsOfFields 3 (some .int)) B.pre w (List.mem_cons_of_mem _ hw)
  have hown : s.vm.findClass RX0 = some m.cls := findClass_of_methodNamed B.named
  have hlocks := B.notSynchronized
  have hA : ∀ q, A q → A q := fun _ h => h
  have hS : va_S A s.heap s.heap [] := va_S.rf
  have hS0 := hS
  have hl := lv_entry ([.ref p0]) (n := 3) (Nat.le_of_ble_eq_true rfl)
  rw [lg_entry_eq]
  generalize (lg_sl ([.ref p0]) ++ List.replicate (3 - (lg_sl ([.ref p0])).length) Slot.unset).toArray = ls at hl ⊢
  have hl : lv_has ls 3 [(0, .ref p0)] := hl
  generalize hR : (f_X0_bitsOfFields p0_0) = R
  rw [f_X0_bitsOfFields] at hR
  refine lv_iconst (v := (0 : Int32)) hx hb dX0_bitsOfFields_0 (by decide) ?_
  refine lv_istore_n (lv' := [(1, .int (0 : Int32)), (0, .ref p0)]) hx hb dX0_bitsOfFields_1 rfl hl (by decide) rfl (fun ls hl => ?_)
  refine lv_iconst (v := (0 : Int32)) hx hb dX0_bitsOfFields_2 (by decide) ?_
  refine lv_istore_n (lv' := [(2, .int (0 : Int32)), (1, .int (0 : Int32)), (0, .ref p0)]) hx hb dX0_bitsOfFields_3 rfl hl (by decide) rfl (fun ls hl => ?_)
  have L4 : ∀ (n_2 : Nat) (x1_1 : Int32) (x2_1 : Int32) (H : Heap) (locs : List Loc), (0 ≤ x2_1.toInt ∧ x2_1.toInt ≤ 12 ∧ 12 - x2_1.toInt < n_2) → oW G A Ω H → va_S A s.heap H locs → ∀ ls : Array Slot, lv_has ls 3 [(0, .ref p0), (1, .int x1_1), (2, .int x2_1)] → (f_X0_bitsOfFields_L4 p0_0 n_2 x1_1 x2_1) = R → W p l e (headSpec (wz yX0_bitsOfFields cX0_bitsOfFields 3 (some .int)) ({ frames := 1, cells := 0, slots := 0, locals := 20 } : Room)).room s m ([.ref p0] : List Value).toArray below meth c H locs 0 0 (MQ below (va_Qi (fun (r : Int32) (Ω1 : Om) => r = R ∧ Ω1 = Ω) (oB G A) A) ([.ref p0] : List Value).toArray s 0 0 A) (F0 m 4 ls []) := by
    intro n_2
    induction n_2 with
    | zero =>
      intro x1_1 x2_1 H locs v_4_0 hW hS ls hl hR
      exfalso
      omega
    | succ n_2 ih4 =>
      intro x1_1 x2_1 H locs v_4_0 hW hS ls hl hR
      rw [f_X0_bitsOfFields_L4] at hR
      refine lv_iload_n hx hb dX0_bitsOfFields_4 rfl (lv_at hl 2 rfl) ?_
      refine lv_aload_n hx hb dX0_bitsOfFields_5 rfl (lv_at hl 0 rfl) ?_
      refine o_get hx hb hts hown hK hW (inBlk_o h_p0) rfl ig0 1 (by decide) fl_X0_52 rfl dX0_bitsOfFields_6 ?_
      try have j_4 : 0 ≤ (p0_0 0 1).toInt ∧ (p0_0 0 1).toInt ≤ 12 := BI_flds (by assumption)
      refine lv_icmp_ge (tgt := 30) hx hb dX0_bitsOfFields_9 (by decide) (fun c_3 => ?_) (fun c_3 => ?_)
      · rw [if_pos c_3] at hR
        have i_3 := rle c_3
        refine lv_iload_n hx hb dX0_bitsOfFields_30 rfl (lv_at hl 1 rfl) ?_
        subst hR
        exact W.iret (v := x1_1) hx hb hr (fun t ht hW9 => ⟨⟨x1_1, Ω, rfl, ⟨rfl, rfl⟩, by rw [oB, ht]; exact hW⟩, hS.F ht⟩) hS.2.2 dX0_bitsOfFields_31
      · rw [if_neg c_3] at hR
        have i_3 := rnle c_3
        refine lv_iload_n hx hb dX0_bitsOfFields_12 rfl (lv_at hl 1 rfl) ?_
        refine lv_aload_n hx hb dX0_bitsOfFields_13 rfl (lv_at hl 0 rfl) ?_
        refine o_get hx hb hts hown hK hW (inBlk_o h_p0) rfl ig0 10 (by decide) fl_X0_33 rfl dX0_bitsOfFields_14 ?_
        refine lv_iload_n hx hb dX0_bitsOfFields_17 rfl (lv_at hl 2 rfl) ?_
        refine o_iald hx hb hK hW (inBlk_a7 h_p0) (vp_in_iff.mpr ⟨by omega, by omega⟩) dX0_bitsOfFields_18 ?_
        refine o_SiR (rest := [.int x1_1]) (As := [.int ((p0_0 8) x2_1.toNatClampNeg)]) (n := 1) hx hb hml hown hts hK hN hZ hW hS hA (c_J6_bitCount_0f7a4 l G A Ω ((p0_0 8) x2_1.toNatClampNeg)) ml_X0_66 st_J6_bitCount_0f7a4 ini_J6 co_J6_bitCount_0f7a4 (by decide +kernel) ⟨Nat.zero_le _, Nat.zero_le _⟩ hl.1 (Nat.le_of_ble_eq_true rfl) rfl rfl dX0_bitsOfFields_19 (fun r H locs hp hW hS => ?_)
        subst hp
        refine lv_iadd hx hb dX0_bitsOfFields_22 ?_
        refine lv_istore_n (lv' := [(1, .int (x1_1 + (f_J6_bitCount_0f7a4 ((p0_0 8) x2_1.toNatClampNeg)))), (0, .ref p0), (2, .int x2_1)]) hx hb dX0_bitsOfFields_23 rfl hl (by decide) rfl (fun ls hl => ?_)
        refine lv_iinc (v := (x2_1 + (1 : Int32))) (lv' := [(2, .int (x2_1 + (1 : Int32))), (1, .int (x1_1 + (f_J6_bitCount_0f7a4 ((p0_0 8) x2_1.toNatClampNeg)))), (0, .ref p0)]) hx hb dX0_bitsOfFields_24 hl (k := 2) rfl rfl (by decide) rfl (fun ls hl => ?_)
        refine lv_goto (tgt := 4) hx hb dX0_bitsOfFields_27 (by decide) ?_
        try have j_6 : (x1_1 + (f_J6_bitCount_0f7a4 ((p0_0 8) x2_1.toNatClampNeg))).toInt = x1_1.toInt + (f_J6_bitCount_0f7a4 ((p0_0 8) x2_1.toNatClampNeg)).toInt := fb_addI (by omega) (by omega)
        have j_7 : (1 : Int32).toInt = 1 := by decide
        try have j_8 : (x2_1 + (1 : Int32)).toInt = x2_1.toInt + (1 : Int32).toInt := fb_addI (by omega) (by omega)
        exact ih4 (x1_1 + (f_J6_bitCount_0f7a4 ((p0_0 8) x2_1.toNatClampNeg))) (x2_1 + (1 : Int32)) H locs (by omega) hW hS ls (lv_sub hl [2, 1, 0] rfl) hR
  have j_9 : (0 : Int32).toInt = 0 := by decide
  exact L4 4000 (0 : Int32) (0 : Int32) s.heap [] (by omega) hW hS ls (lv_sub hl [2, 1, 0] rfl) hR
set_option maxHeartbeats 4000000 in
set_option maxRecDepth 100000 in
theorem c_X0_empty (l : Launch) (G : Gm) (A : Nat → Prop) (Ω : Om) (p0 : Nat) (p0_0 : Blk) (hB_p0 : BlkInv p0_0) (h_p0 : inBlk G Ω p0 p0_0) : Met l yX0_empty (wz yX0_empty cX0_empty 1 none) ({ frames := 0, cells := 0, slots := 0, locals := 0 } : Room) (va_Pc [.ref p0] (oS G A Ω)) (va_Qv (fun (Ω1 : Om) => inBlk G Ω1 p0 ((f_X0_empty p0_0)) ∧ (∀ q : Nat, (q < p0 ∨ p0 + 13 ≤ q) → Ω1 q = Ω q)) (oB G A) A) 0 0 A := by
  refine Met.ofW (cc := cX0_empty) (maxL := 1) (ret := none) (by decide) rfl ?_
  intro p e s m args below meth c s₁ B hml hv
  obtain ⟨rfl, hW, hK, hN, hZ⟩ := hv
  have hx := B.exec
  have hb := B.bytes
  have hr := B.returns
  have hts : ∀ w ∈ gt, w.before _ s = true := fun w hw => atoms_spec (ws := wz yX0_empty cX0_empty 1 none) B.pre w (List.mem_cons_of_mem _ hw)
  have hown : s.vm.findClass RX0 = some m.cls := findClass_of_methodNamed B.named
  have hlocks := B.notSynchronized
  have hA : ∀ q, A q → A q := fun _ h => h
  have hS : va_S A s.heap s.heap [] := va_S.rf
  have hS0 := hS
  have hl := lv_entry ([.ref p0]) (n := 1) (Nat.le_of_ble_eq_true rfl)
  rw [lg_entry_eq]
  generalize (lg_sl ([.ref p0]) ++ List.replicate (1 - (lg_sl ([.ref p0])).length) Slot.unset).toArray = ls at hl ⊢
  have hl : lv_has ls 1 [(0, .ref p0)] := hl
  have hE : ∀ q : Nat, (q < p0 ∨ p0 + 13 ≤ q) → Ω q = Ω q := by intros; rfl
  generalize hR : (f_X0_empty p0_0) = R
  rw [f_X0_empty] at hR
  refine lv_aload_n hx hb dX0_empty_0 rfl (lv_at hl 0 rfl) ?_
  refine lv_iconst (v := (0 : Int32)) hx hb dX0_empty_1 (by decide) ?_
  refine vBlk_0 hx hb hts hown hK hW hS hA h_p0 fl_X0_48 dX0_empty_2 (fun Ω_1 H locs h_p0 hF_1 hW hS => ?_)
  have hE : ∀ q : Nat, (q < p0 ∨ p0 + 13 ≤ q) → Ω_1 q = Ω q := fun q g0 => (hF_1 q (by omega)).trans (hE q g0)
  refine lv_aload_n hx hb dX0_empty_5 rfl (lv_at hl 0 rfl) ?_
  refine lv_iconst (v := (0 : Int32)) hx hb dX0_empty_6 (by decide) ?_
  refine vBlk_1 hx hb hts hown hK hW hS hA h_p0 fl_X0_52 dX0_empty_7 (fun Ω_2 H locs h_p0 hF_2 hW hS => ?_)
  have hE : ∀ q : Nat, (q < p0 ∨ p0 + 13 ≤ q) → Ω_2 q = Ω q := fun q g0 => (hF_2 q (by omega)).trans (hE q g0)
  refine lv_aload_n hx hb dX0_empty_10 rfl (lv_at hl 0 rfl) ?_
  refine lv_iconst (v := (0 : Int32)) hx hb dX0_empty_11 (by decide) ?_
  refine vBlk_2 hx hb hts hown hK hW hS hA h_p0 fl_X0_55 dX0_empty_12 (fun Ω_3 H locs h_p0 hF_3 hW hS => ?_)
  have hE : ∀ q : Nat, (q < p0 ∨ p0 + 13 ≤ q) → Ω_3 q = Ω q := fun q g0 => (hF_3 q (by omega)).trans (hE q g0)
  subst hR
  exact W.vret hx hb hr (fun t ht hW9 => ⟨⟨Ω_3, rfl, ⟨h_p0, hE⟩, by rw [oB, ht]; exact hW⟩, hS.F ht⟩) hS.2.2 dX0_empty_15
set_option maxHeartbeats 4000000 in
set_option maxRecDepth 100000 in
theorem c_X0_usedBits (l : Launch) (G : Gm) (A : Nat → Prop) (Ω : Om) (p0 : Nat) (p0_0 : Blk) (x1 : Int32) (hB_p0 : BlkInv p0_0) (h_p0 : inBlk G Ω p0 p0_0) : Met l yX0_usedBits (wz yX0_usedBits cX0_usedBits 4 (some .int)) ({ frames := 0, cells := 0, slots := 0, locals := 0 } : Room) (va_Pc [.ref p0, .int x1] (oS G A Ω)) (va_Qi (fun (r : Int32) (Ω1 : Om) => r = (f_X0_usedBits p0_0 x1) ∧ Ω1 = Ω) (oB G A) A) 0 0 A := by
  refine Met.ofW (cc := cX0_usedBits) (maxL := 4) (ret := (some .int)) (by decide) rfl ?_
  intro p e s m args below meth c s₁ B hml hv
  obtain ⟨rfl, hW, hK, hN, hZ⟩ := hv
  have hx := B.exec
  have hb := B.bytes
  have hr := B.returns
  have hts : ∀ w ∈ gt, w.before _ s = true := fun w hw => atoms_spec (ws := wz yX0_usedBits cX0_usedBits 4 (some .int)) B.pre w (List.mem_cons_of_mem _ hw)
  have hown : s.vm.findClass RX0 = some m.cls := findClass_of_methodNamed B.named
  have hlocks := B.notSynchronized
  have hA : ∀ q, A q → A q := fun _ h => h
  have hS : va_S A s.heap s.heap [] := va_S.rf
  have hS0 := hS
  have hl := lv_entry ([.ref p0, .int x1]) (n := 4) (Nat.le_of_ble_eq_true rfl)
  rw [lg_entry_eq]
  generalize (lg_sl ([.ref p0, .int x1]) ++ List.replicate (4 - (lg_sl ([.ref p0, .int x1])).length) Slot.unset).toArray = ls at hl ⊢
  have hl : lv_has ls 4 [(0, .ref p0), (1, .int x1)] := hl
  generalize hR : (f_X0_usedBits p0_0 x1) = R
  rw [f_X0_usedBits] at hR
  refine lv_iconst (v := (0 : Int32)) hx hb dX0_usedBits_0 (by decide) ?_
  refine lv_istore_n (lv' := [(2, .int (0 : Int32)), (0, .ref p0), (1, .int x1)]) hx hb dX0_usedBits_1 rfl hl (by decide) rfl (fun ls hl => ?_)
  refine lv_iconst (v := (0 : Int32)) hx hb dX0_usedBits_2 (by decide) ?_
  refine lv_istore_n (lv' := [(3, .int (0 : Int32)), (2, .int (0 : Int32)), (0, .ref p0), (1, .int x1)]) hx hb dX0_usedBits_3 rfl hl (by decide) rfl (fun ls hl => ?_)
  have L4 : ∀ (n_2 : Nat) (x2_1 : Int32) (x3_1 : Int32) (H : Heap) (locs : List Loc), (0 ≤ x3_1.toInt ∧ x3_1.toInt ≤ 12 ∧ 12 - x3_1.toInt < n_2) → oW G A Ω H → va_S A s.heap H locs → ∀ ls : Array Slot, lv_has ls 4 [(0, .ref p0), (1, .int x1), (2, .int x2_1), (3, .int x3_1)] → (f_X0_usedBits_L4 p0_0 x1 n_2 x2_1 x3_1) = R → W p l e (headSpec (wz yX0_usedBits cX0_usedBits 4 (some .int)) ({ frames := 0, cells := 0, slots := 0, locals := 0 } : Room)).room s m ([.ref p0, .int x1] : List Value).toArray below meth c H locs 0 0 (MQ below (va_Qi (fun (r : Int32) (Ω1 : Om) => r = R ∧ Ω1 = Ω) (oB G A) A) ([.ref p0, .int x1] : List Value).toArray s 0 0 A) (F0 m 4 ls []) := by
    intro n_2
    induction n_2 with
    | zero =>
      intro x2_1 x3_1 H locs v_4_0 hW hS ls hl hR
      exfalso
      omega
    | succ n_2 ih4 =>
      intro x2_1 x3_1 H locs v_4_0 hW hS ls hl hR
      rw [f_X0_usedBits_L4] at hR
      refine lv_iload_n hx hb dX0_usedBits_4 rfl (lv_at hl 3 rfl) ?_
      refine lv_aload_n hx hb dX0_usedBits_5 rfl (lv_at hl 0 rfl) ?_
      refine o_get hx hb hts hown hK hW (inBlk_o h_p0) rfl ig0 1 (by decide) fl_X0_52 rfl dX0_usedBits_6 ?_
      try have j_4 : 0 ≤ (p0_0 0 1).toInt ∧ (p0_0 0 1).toInt ≤ 12 := BI_flds (by assumption)
      refine lv_icmp_ge (tgt := 37) hx hb dX0_usedBits_9 (by decide) (fun c_3 => ?_) (fun c_3 => ?_)
      · rw [if_pos c_3] at hR
        have i_3 := rle c_3
        refine lv_iload_n hx hb dX0_usedBits_37 rfl (lv_at hl 2 rfl) ?_
        subst hR
        exact W.iret (v := x2_1) hx hb hr (fun t ht hW9 => ⟨⟨x2_1, Ω, rfl, ⟨rfl, rfl⟩, by rw [oB, ht]; exact hW⟩, hS.F ht⟩) hS.2.2 dX0_usedBits_38
      · rw [if_neg c_3] at hR
        have i_3 := rnle c_3
        refine lv_aload_n hx hb dX0_usedBits_12 rfl (lv_at hl 0 rfl) ?_
        refine o_get hx hb hts hown hK hW (inBlk_o h_p0) rfl ig0 6 (by decide) fl_X0_21 rfl dX0_usedBits_13 ?_
        refine lv_iload_n hx hb dX0_usedBits_16 rfl (lv_at hl 3 rfl) ?_
        refine o_iald hx hb hK hW (inBlk_a3 h_p0) (vp_in_iff.mpr ⟨by omega, by omega⟩) dX0_usedBits_17 ?_
        refine lv_iload_n hx hb dX0_usedBits_18 rfl (lv_at hl 1 rfl) ?_
        try have j_6 : 0 ≤ ((p0_0 4) x3_1.toNatClampNeg).toInt ∧ ((p0_0 4) x3_1.toNatClampNeg).toInt < 6 := BI_owner hB_p0 _
        refine lv_icmp_ne (tgt := 31) hx hb dX0_usedBits_19 (by decide) (fun c_5 => ?_) (fun c_5 => ?_)
        · rw [if_neg c_5] at hR
          have i_5 := rne c_5
          refine lv_iinc (v := (x3_1 + (1 : Int32))) (lv' := [(3, .int (x3_1 + (1 : Int32))), (0, .ref p0), (1, .int x1), (2, .int x2_1)]) hx hb dX0_usedBits_31 hl (k := 3) rfl rfl (by decide) rfl (fun ls hl => ?_)
          refine lv_goto (tgt := 4) hx hb dX0_usedBits_34 (by decide) ?_
          have j_7 : (1 : Int32).toInt = 1 := by decide
          try have j_8 : (x3_1 + (1 : Int32)).toInt = x3_1.toInt + (1 : Int32).toInt := fb_addI (by omega) (by omega)
          exact ih4 x2_1 (x3_1 + (1 : Int32)) H locs (by omega) hW hS ls (lv_sub hl [1, 2, 3, 0] rfl) hR
        · rw [if_pos c_5] at hR
          have i_5 := congrArg Int32.toInt c_5
          refine lv_iload_n hx hb dX0_usedBits_22 rfl (lv_at hl 2 rfl) ?_
          refine lv_aload_n hx hb dX0_usedBits_23 rfl (lv_at hl 0 rfl) ?_
          refine o_get hx hb hts hown hK hW (inBlk_o h_p0) rfl ig0 10 (by decide) fl_X0_33 rfl dX0_usedBits_24 ?_
          refine lv_iload_n hx hb dX0_usedBits_27 rfl (lv_at hl 3 rfl) ?_
          refine o_iald hx hb hK hW (inBlk_a7 h_p0) (vp_in_iff.mpr ⟨by omega, by omega⟩) dX0_usedBits_28 ?_
          refine lv_ior hx hb dX0_usedBits_29 ?_
          refine lv_istore_n (lv' := [(2, .int (x2_1 ||| ((p0_0 8) x3_1.toNatClampNeg))), (0, .ref p0), (1, .int x1), (3, .int x3_1)]) hx hb dX0_usedBits_30 rfl hl (by decide) rfl (fun ls hl => ?_)
          refine lv_iinc (v := (x3_1 + (1 : Int32))) (lv' := [(3, .int (x3_1 + (1 : Int32))), (2, .int (x2_1 ||| ((p0_0 8) x3_1.toNatClampNeg))), (0, .ref p0), (1, .int x1)]) hx hb dX0_usedBits_31 hl (k := 3) rfl rfl (by decide) rfl (fun ls hl => ?_)
          refine lv_goto (tgt := 4) hx hb dX0_usedBits_34 (by decide) ?_
          have j_9 : (1 : Int32).toInt = 1 := by decide
          try have j_10 : (x3_1 + (1 : Int32)).toInt = x3_1.toInt + (1 : Int32).toInt := fb_addI (by omega) (by omega)
          exact ih4 (x2_1 ||| ((p0_0 8) x3_1.toNatClampNeg)) (x3_1 + (1 : Int32)) H locs (by omega) hW hS ls (lv_sub hl [2, 3, 1, 0] rfl) hR
  have j_11 : (0 : Int32).toInt = 0 := by decide
  exact L4 4000 (0 : Int32) (0 : Int32) s.heap [] (by omega) hW hS ls (lv_sub hl [2, 3, 1, 0] rfl) hR
set_option maxHeartbeats 4000000 in
set_option maxRecDepth 100000 in
theorem c_X3_copyFrom (l : Launch) (G : Gm) (A : Nat → Prop) (Ω : Om) (p0 : Nat) (p1 : Nat) (p0_0 : Int32) (p0_1 : Fn) (p0_2 : Fn) (p0_3 : Fn) (p1_0 : Int32) (p1_1 : Fn) (p1_2 : Fn) (p1_3 : Fn) (hd_p0_p1 : p0 + 4 ≤ p1 ∨ p1 + 4 ≤ p0) (h_p0 : inJou G Ω p0 p0_0 p0_1 p0_2 p0_3) (h_p1 : inJou G Ω p1 p1_0 p1_1 p1_2 p1_3) : Met l yX3_copyFrom (wz yX3_copyFrom cX3_copyFrom 3 none) ({ frames := 0, cells := 0, slots := 0, locals := 0 } : Room) (va_Pc [.ref p0, .ref p1] (oS G A Ω)) (va_Qv (fun (Ω1 : Om) => inJou G Ω1 p0 ((f_X3_copyFrom p0_1 p0_2 p0_3 p1_0 p1_1 p1_2 p1_3).1) ((f_X3_copyFrom p0_1 p0_2 p0_3 p1_0 p1_1 p1_2 p1_3).2.1) ((f_X3_copyFrom p0_1 p0_2 p0_3 p1_0 p1_1 p1_2 p1_3).2.2.1) ((f_X3_copyFrom p0_1 p0_2 p0_3 p1_0 p1_1 p1_2 p1_3).2.2.2) ∧ (∀ q : Nat, (q < p0 ∨ p0 + 4 ≤ q) → Ω1 q = Ω q)) (oB G A) A) 0 0 A := by
  refine Met.ofW (cc := cX3_copyFrom) (maxL := 3) (ret := none) (by decide) rfl ?_
  intro p e s m args below meth c s₁ B hml hv
  obtain ⟨rfl, hW, hK, hN, hZ⟩ := hv
  have hx := B.exec
  have hb := B.bytes
  have hr := B.returns
  have hts : ∀ w ∈ gt, w.before _ s = true := fun w hw => atoms_spec (ws := wz yX3_copyFrom cX3_copyFrom 3 none) B.pre w (List.mem_cons_of_mem _ hw)
  have hown : s.vm.findClass RX3 = some m.cls := findClass_of_methodNamed B.named
  have hlocks := B.notSynchronized
  have hA : ∀ q, A q → A q := fun _ h => h
  have hS : va_S A s.heap s.heap [] := va_S.rf
  have hS0 := hS
  have hl := lv_entry ([.ref p0, .ref p1]) (n := 3) (Nat.le_of_ble_eq_true rfl)
  rw [lg_entry_eq]
  generalize (lg_sl ([.ref p0, .ref p1]) ++ List.replicate (3 - (lg_sl ([.ref p0, .ref p1])).length) Slot.unset).toArray = ls at hl ⊢
  have hl : lv_has ls 3 [(0, .ref p0), (1, .ref p1)] := hl
  have hE : ∀ q : Nat, (q < p0 ∨ p0 + 4 ≤ q) → Ω q = Ω q := by intros; rfl
  generalize hR : (f_X3_copyFrom p0_1 p0_2 p0_3 p1_0 p1_1 p1_2 p1_3) = R
  rw [f_X3_copyFrom] at hR
  refine lv_aload_n hx hb dX3_copyFrom_0 rfl (lv_at hl 0 rfl) ?_
  refine lv_aload_n hx hb dX3_copyFrom_1 rfl (lv_at hl 1 rfl) ?_
  refine o_get hx hb hts hown hK hW (inJou_o h_p1) rfl ig3 0 (by decide) fl_X3_22 rfl dX3_copyFrom_2 ?_
  refine vJou_0 hx hb hts hown hK hW hS hA h_p0 fl_X3_22 dX3_copyFrom_5 (fun Ω_1 H locs h_p0 hF_1 hW hS => ?_)
  have h_p1 := h_p1.keep (fun q h1 h2 => hF_1 q (by omega))
  have hE : ∀ q : Nat, (q < p0 ∨ p0 + 4 ≤ q) → Ω_1 q = Ω q := fun q g0 => (hF_1 q (by omega)).trans (hE q g0)
  refine lv_iconst (v := (0 : Int32)) hx hb dX3_copyFrom_8 (by decide) ?_
  refine lv_istore_n (lv' := [(2, .int (0 : Int32)), (0, .ref p0), (1, .ref p1)]) hx hb dX3_copyFrom_9 rfl hl (by decide) rfl (fun ls hl => ?_)
  have L10 : ∀ (n_3 : Nat) (x2_2 : Int32) (p0_1_2 : Fn) (p0_2_2 : Fn) (p0_3_2 : Fn) (Ω_4 : Om) (H : Heap) (locs : List Loc), (0 ≤ x2_2.toInt ∧ x2_2.toInt ≤ 20 ∧ 20 - x2_2.toInt < n_3) → inJou G Ω_4 p0 p1_0 p0_1_2 p0_2_2 p0_3_2 → inJou G Ω_4 p1 p1_0 p1_1 p1_2 p1_3 → (∀ q : Nat, (q < p0 ∨ p0 + 4 ≤ q) → Ω_4 q = Ω q) → oW G A Ω_4 H → va_S A s.heap H locs → ∀ ls : Array Slot, lv_has ls 3 [(0, .ref p0), (1, .ref p1), (2, .int x2_2)] → (f_X3_copyFrom_L10 p1_0 p1_1 p1_2 p1_3 n_3 x2_2 p0_1_2 p0_2_2 p0_3_2) = R → W p l e (headSpec (wz yX3_copyFrom cX3_copyFrom 3 none) ({ frames := 0, cells := 0, slots := 0, locals := 0 } : Room)).room s m ([.ref p0, .ref p1] : List Value).toArray below meth c H locs 0 0 (MQ below (va_Qv (fun (Ω1 : Om) => inJou G Ω1 p0 (R.1) (R.2.1) (R.2.2.1) (R.2.2.2) ∧ (∀ q : Nat, (q < p0 ∨ p0 + 4 ≤ q) → Ω1 q = Ω q)) (oB G A) A) ([.ref p0, .ref p1] : List Value).toArray s 0 0 A) (F0 m 10 ls []) := by
    intro n_3
    induction n_3 with
    | zero =>
      intro x2_2 p0_1_2 p0_2_2 p0_3_2 Ω_4 H locs v_10_0 h_p0 h_p1 hE hW hS ls hl hR
      exfalso
      omega
    | succ n_3 ih10 =>
      intro x2_2 p0_1_2 p0_2_2 p0_3_2 Ω_4 H locs v_10_0 h_p0 h_p1 hE hW hS ls hl hR
      rw [f_X3_copyFrom_L10] at hR
      refine lv_iload_n hx hb dX3_copyFrom_10 rfl (lv_at hl 2 rfl) ?_
      refine lv_bipush (v := (20 : Int32)) hx hb dX3_copyFrom_11 (by decide) ?_
      have j_6 : (20 : Int32).toInt = 20 := by decide
      refine lv_icmp_ge (tgt := 58) hx hb dX3_copyFrom_13 (by decide) (fun c_5 => ?_) (fun c_5 => ?_)
      · rw [if_pos c_5] at hR
        have i_5 := rle c_5
        subst hR
        exact W.vret hx hb hr (fun t ht hW9 => ⟨⟨Ω_4, rfl, ⟨h_p0, hE⟩, by rw [oB, ht]; exact hW⟩, hS.F ht⟩) hS.2.2 dX3_copyFrom_58
      · rw [if_neg c_5] at hR
        have i_5 := rnle c_5
        refine lv_aload_n hx hb dX3_copyFrom_16 rfl (lv_at hl 0 rfl) ?_
        refine o_get hx hb hts hown hK hW (inJou_o h_p0) rfl ig3 1 (by decide) fl_X3_9 rfl dX3_copyFrom_17 ?_
        refine lv_iload_n hx hb dX3_copyFrom_20 rfl (lv_at hl 2 rfl) ?_
        refine lv_aload_n hx hb dX3_copyFrom_21 rfl (lv_at hl 1 rfl) ?_
        refine o_get hx hb hts hown hK hW (inJou_o h_p1) rfl ig3 1 (by decide) fl_X3_9 rfl dX3_copyFrom_22 ?_
        refine lv_iload_n hx hb dX3_copyFrom_25 rfl (lv_at hl 2 rfl) ?_
        refine o_iald hx hb hK hW (inJou_a0 h_p1) (vp_in_iff.mpr ⟨by omega, by omega⟩) dX3_copyFrom_26 ?_
        refine wJou_0 hx hb hK hW hS hA h_p0 (vp_in_iff.mpr ⟨by omega, by omega⟩) dX3_copyFrom_27 (fun Ω_7 H locs h_p0 hF_7 hW hS => ?_)
        have h_p1 := h_p1.keep (fun q h1 h2 => hF_7 q (by omega))
        have hE : ∀ q : Nat, (q < p0 ∨ p0 + 4 ≤ q) → Ω_7 q = Ω q := fun q g0 => (hF_7 q (by omega)).trans (hE q g0)
        refine lv_aload_n hx hb dX3_copyFrom_28 rfl (lv_at hl 0 rfl) ?_
        refine o_get hx hb hts hown hK hW (inJou_o h_p0) rfl ig3 2 (by decide) fl_X3_15 rfl dX3_copyFrom_29 ?_
        refine lv_iload_n hx hb dX3_copyFrom_32 rfl (lv_at hl 2 rfl) ?_
        refine lv_aload_n hx hb dX3_copyFrom_33 rfl (lv_at hl 1 rfl) ?_
        refine o_get hx hb hts hown hK hW (inJou_o h_p1) rfl ig3 2 (by decide) fl_X3_15 rfl dX3_copyFrom_34 ?_
        refine lv_iload_n hx hb dX3_copyFrom_37 rfl (lv_at hl 2 rfl) ?_
        refine o_zald hx hb hK hW (inJou_a1 h_p1) (vp_in_iff.mpr ⟨by omega, by omega⟩) dX3_copyFrom_38 ?_
        refine wJou_1 hx hb hK hW hS hA h_p0 (vp_in_iff.mpr ⟨by omega, by omega⟩) dX3_copyFrom_39 (fun Ω_8 H locs h_p0 hF_8 hW hS => ?_)
        have h_p1 := h_p1.keep (fun q h1 h2 => hF_8 q (by omega))
        have hE : ∀ q : Nat, (q < p0 ∨ p0 + 4 ≤ q) → Ω_8 q = Ω q := fun q g0 => (hF_8 q (by omega)).trans (hE q g0)
        refine lv_aload_n hx hb dX3_copyFrom_40 rfl (lv_at hl 0 rfl) ?_
        refine o_get hx hb hts hown hK hW (inJou_o h_p0) rfl ig3 3 (by decide) fl_X3_19 rfl dX3_copyFrom_41 ?_
        refine lv_iload_n hx hb dX3_copyFrom_44 rfl (lv_at hl 2 rfl) ?_
        refine lv_aload_n hx hb dX3_copyFrom_45 rfl (lv_at hl 1 rfl) ?_
        refine o_get hx hb hts hown hK hW (inJou_o h_p1) rfl ig3 3 (by decide) fl_X3_19 rfl dX3_copyFrom_46 ?_
        refine lv_iload_n hx hb dX3_copyFrom_49 rfl (lv_at hl 2 rfl) ?_
        refine o_iald hx hb hK hW (inJou_a2 h_p1) (vp_in_iff.mpr ⟨by omega, by omega⟩) dX3_copyFrom_50 ?_
        refine wJou_2 hx hb hK hW hS hA h_p0 (vp_in_iff.mpr ⟨by omega, by omega⟩) dX3_copyFrom_51 (fun Ω_9 H locs h_p0 hF_9 hW hS => ?_)
        have h_p1 := h_p1.keep (fun q h1 h2 => hF_9 q (by omega))
        have hE : ∀ q : Nat, (q < p0 ∨ p0 + 4 ≤ q) → Ω_9 q = Ω q := fun q g0 => (hF_9 q (by omega)).trans (hE q g0)
        refine lv_iinc (v := (x2_2 + (1 : Int32))) (lv' := [(2, .int (x2_2 + (1 : Int32))), (0, .ref p0), (1, .ref p1)]) hx hb dX3_copyFrom_52 hl (k := 2) rfl rfl (by decide) rfl (fun ls hl => ?_)
        refine lv_goto (tgt := 10) hx hb dX3_copyFrom_55 (by decide) ?_
        have j_10 : (1 : Int32).toInt = 1 := by decide
        try have j_11 : (x2_2 + (1 : Int32)).toInt = x2_2.toInt + (1 : Int32).toInt := fb_addI (by omega) (by omega)
        exact ih10 (x2_2 + (1 : Int32)) (upd p0_1_2 x2_2.toNatClampNeg (p1_1 x2_2.toNatClampNeg)) (upd p0_2_2 x2_2.toNatClampNeg (vp_nar .boolean (p1_2 x2_2.toNatClampNeg))) (upd p0_3_2 x2_2.toNatClampNeg (p1_3 x2_2.toNatClampNeg)) Ω_9 H locs (by omega) h_p0 h_p1 hE hW hS ls (lv_sub hl [1, 2, 0] rfl) hR
  have j_12 : (0 : Int32).toInt = 0 := by decide
  exact L10 4000 (0 : Int32) p0_1 p0_2 p0_3 Ω_1 H locs (by omega) h_p0 h_p1 hE hW hS ls (lv_sub hl [1, 2, 0] rfl) hR
set_option maxHeartbeats 4000000 in
set_option maxRecDepth 100000 in
theorem c_X6_isLetter (l : Launch) (G : Gm) (A : Nat → Prop) (Ω : Om) (p0 : Nat) (p0_0 : Fn) (p0_1 : Int32) (x1 : Int32) (hT_p0 : 0 ≤ p0_1.toInt ∧ p0_1.toInt ≤ 160) (hi_x1 : 0 ≤ x1.toInt ∧ x1.toInt < 160) (h_p0 : inTxt G Ω p0 p0_0 p0_1) : Met l yX6_isLetter (wz yX6_isLetter cX6_isLetter 2 (some .boolean)) ({ frames := 0, cells := 0, slots := 0, locals := 0 } : Room) (va_Pc [.ref p0, .int x1] (oS G A Ω)) (va_Qi (fun (r : Int32) (Ω1 : Om) => (r = (f_X6_isLetter p0_0 x1) ∧ (r = 0 ∨ r = 1)) ∧ Ω1 = Ω) (oB G A) A) 0 0 A := by
  refine Met.ofW (cc := cX6_isLetter) (maxL := 2) (ret := (some .boolean)) (by decide) rfl ?_
  intro p e s m args below meth c s₁ B hml hv
  obtain ⟨rfl, hW, hK, hN, hZ⟩ := hv
  have hx := B.exec
  have hb := B.bytes
  have hr := B.returns
  have hts : ∀ w ∈ gt, w.before _ s = true := fun w hw => atoms_spec (ws := wz yX6_isLetter cX6_isLetter 2 (some .boolean)) B.pre w (List.mem_cons_of_mem _ hw)
  have hown : s.vm.findClass RX6 = some m.cls := findClass_of_methodNamed B.named
  have hlocks := B.notSynchronized
  have hA : ∀ q, A q → A q := fun _ h => h
  have hS : va_S A s.heap s.heap [] := va_S.rf
  have hS0 := hS
  have hl := lv_entry ([.ref p0, .int x1]) (n := 2) (Nat.le_of_ble_eq_true rfl)
  rw [lg_entry_eq]
  generalize (lg_sl ([.ref p0, .int x1]) ++ List.replicate (2 - (lg_sl ([.ref p0, .int x1])).length) Slot.unset).toArray = ls at hl ⊢
  have hl : lv_has ls 2 [(0, .ref p0), (1, .int x1)] := hl
  generalize hR : (f_X6_isLetter p0_0 x1) = R
  rw [f_X6_isLetter] at hR
  refine lv_aload_n hx hb dX6_isLetter_0 rfl (lv_at hl 0 rfl) ?_
  refine o_get hx hb hts hown hK hW (inTxt_o h_p0) rfl ig6 0 (by decide) fl_X6_9 rfl dX6_isLetter_1 ?_
  refine lv_iload_n hx hb dX6_isLetter_4 rfl (lv_at hl 1 rfl) ?_
  refine o_iald hx hb hK hW (inTxt_a0 h_p0) (vp_in_iff.mpr ⟨by omega, by omega⟩) dX6_isLetter_5 ?_
  refine lv_bipush (v := (97 : Int32)) hx hb dX6_isLetter_6 (by decide) ?_
  have j_2 : (97 : Int32).toInt = 97 := by decide
  refine lv_icmp_lt (tgt := 26) hx hb dX6_isLetter_8 (by decide) (fun c_1 => ?_) (fun c_1 => ?_)
  · rw [if_pos c_1] at hR
    have i_1 := rlt c_1
    refine lv_iconst (v := (0 : Int32)) hx hb dX6_isLetter_26 (by decide) ?_
    subst hR
    exact W.zret (v := (0 : Int32)) hx hb hr (nb01 (Or.inl rfl)) (fun t ht hW9 => ⟨⟨(0 : Int32), Ω, rfl, ⟨⟨rfl, (Or.inl rfl)⟩, rfl⟩, by rw [oB, ht]; exact hW⟩, hS.F ht⟩) hS.2.2 dX6_isLetter_27
  · rw [if_neg c_1] at hR
    have i_1 := rnlt c_1
    refine lv_aload_n hx hb dX6_isLetter_11 rfl (lv_at hl 0 rfl) ?_
    refine o_get hx hb hts hown hK hW (inTxt_o h_p0) rfl ig6 0 (by decide) fl_X6_9 rfl dX6_isLetter_12 ?_
    refine lv_iload_n hx hb dX6_isLetter_15 rfl (lv_at hl 1 rfl) ?_
    refine o_iald hx hb hK hW (inTxt_a0 h_p0) (vp_in_iff.mpr ⟨by omega, by omega⟩) dX6_isLetter_16 ?_
    refine lv_bipush (v := (122 : Int32)) hx hb dX6_isLetter_17 (by decide) ?_
    have j_4 : (122 : Int32).toInt = 122 := by decide
    refine lv_icmp_gt (tgt := 26) hx hb dX6_isLetter_19 (by decide) (fun c_3 => ?_) (fun c_3 => ?_)
    · rw [if_pos c_3] at hR
      have i_3 := rlt c_3
      refine lv_iconst (v := (0 : Int32)) hx hb dX6_isLetter_26 (by decide) ?_
      subst hR
      exact W.zret (v := (0 : Int32)) hx hb hr (nb01 (Or.inl rfl)) (fun t ht hW9 => ⟨⟨(0 : Int32), Ω, rfl, ⟨⟨rfl, (Or.inl rfl)⟩, rfl⟩, by rw [oB, ht]; exact hW⟩, hS.F ht⟩) hS.2.2 dX6_isLetter_27
    · rw [if_neg c_3] at hR
      have i_3 := rnlt c_3
      refine lv_iconst (v := (1 : Int32)) hx hb dX6_isLetter_22 (by decide) ?_
      refine lv_goto (tgt := 27) hx hb dX6_isLetter_23 (by decide) ?_
      subst hR
      exact W.zret (v := (1 : Int32)) hx hb hr (nb01 (Or.inr rfl)) (fun t ht hW9 => ⟨⟨(1 : Int32), Ω, rfl, ⟨⟨rfl, (Or.inr rfl)⟩, rfl⟩, by rw [oB, ht]; exact hW⟩, hS.F ht⟩) hS.2.2 dX6_isLetter_27
set_option maxHeartbeats 4000000 in
set_option maxRecDepth 100000 in
theorem c_X6_isDigit (l : Launch) (G : Gm) (A : Nat → Prop) (Ω : Om) (p0 : Nat) (p0_0 : Fn) (p0_1 : Int32) (x1 : Int32) (hT_p0 : 0 ≤ p0_1.toInt ∧ p0_1.toInt ≤ 160) (hi_x1 : 0 ≤ x1.toInt ∧ x1.toInt < 160) (h_p0 : inTxt G Ω p0 p0_0 p0_1) : Met l yX6_isDigit (wz yX6_isDigit cX6_isDigit 2 (some .boolean)) ({ frames := 0, cells := 0, slots := 0, locals := 0 } : Room) (va_Pc [.ref p0, .int x1] (oS G A Ω)) (va_Qi (fun (r : Int32) (Ω1 : Om) => (r = (f_X6_isDigit p0_0 x1) ∧ (r = 0 ∨ r = 1)) ∧ Ω1 = Ω) (oB G A) A) 0 0 A := by
  refine Met.ofW (cc := cX6_isDigit) (maxL := 2) (ret := (some .boolean)) (by decide) rfl ?_
  intro p e s m args below meth c s₁ B hml hv
  obtain ⟨rfl, hW, hK, hN, hZ⟩ := hv
  have hx := B.exec
  have hb := B.bytes
  have hr := B.returns
  have hts : ∀ w ∈ gt, w.before _ s = true := fun w hw => atoms_spec (ws := wz yX6_isDigit cX6_isDigit 2 (some .boolean)) B.pre w (List.mem_cons_of_mem _ hw)
  have hown : s.vm.findClass RX6 = some m.cls := findClass_of_methodNamed B.named
  have hlocks := B.notSynchronized
  have hA : ∀ q, A q → A q := fun _ h => h
  have hS : va_S A s.heap s.heap [] := va_S.rf
  have hS0 := hS
  have hl := lv_entry ([.ref p0, .int x1]) (n := 2) (Nat.le_of_ble_eq_true rfl)
  rw [lg_entry_eq]
  generalize (lg_sl ([.ref p0, .int x1]) ++ List.replicate (2 - (lg_sl ([.ref p0, .int x1])).length) Slot.unset).toArray = ls at hl ⊢
  have hl : lv_has ls 2 [(0, .ref p0), (1, .int x1)] := hl
  generalize hR : (f_X6_isDigit p0_0 x1) = R
  rw [f_X6_isDigit] at hR
  refine lv_aload_n hx hb dX6_isDigit_0 rfl (lv_at hl 0 rfl) ?_
  refine o_get hx hb hts hown hK hW (inTxt_o h_p0) rfl ig6 0 (by decide) fl_X6_9 rfl dX6_isDigit_1 ?_
  refine lv_iload_n hx hb dX6_isDigit_4 rfl (lv_at hl 1 rfl) ?_
  refine o_iald hx hb hK hW (inTxt_a0 h_p0) (vp_in_iff.mpr ⟨by omega, by omega⟩) dX6_isDigit_5 ?_
  refine lv_bipush (v := (48 : Int32)) hx hb dX6_isDigit_6 (by decide) ?_
  have j_2 : (48 : Int32).toInt = 48 := by decide
  refine lv_icmp_lt (tgt := 26) hx hb dX6_isDigit_8 (by decide) (fun c_1 => ?_) (fun c_1 => ?_)
  · rw [if_pos c_1] at hR
    have i_1 := rlt c_1
    refine lv_iconst (v := (0 : Int32)) hx hb dX6_isDigit_26 (by decide) ?_
    subst hR
    exact W.zret (v := (0 : Int32)) hx hb hr (nb01 (Or.inl rfl)) (fun t ht hW9 => ⟨⟨(0 : Int32), Ω, rfl, ⟨⟨rfl, (Or.inl rfl)⟩, rfl⟩, by rw [oB, ht]; exact hW⟩, hS.F ht⟩) hS.2.2 dX6_isDigit_27
  · rw [if_neg c_1] at hR
    have i_1 := rnlt c_1
    refine lv_aload_n hx hb dX6_isDigit_11 rfl (lv_at hl 0 rfl) ?_
    refine o_get hx hb hts hown hK hW (inTxt_o h_p0) rfl ig6 0 (by decide) fl_X6_9 rfl dX6_isDigit_12 ?_
    refine lv_iload_n hx hb dX6_isDigit_15 rfl (lv_at hl 1 rfl) ?_
    refine o_iald hx hb hK hW (inTxt_a0 h_p0) (vp_in_iff.mpr ⟨by omega, by omega⟩) dX6_isDigit_16 ?_
    refine lv_bipush (v := (57 : Int32)) hx hb dX6_isDigit_17 (by decide) ?_
    have j_4 : (57 : Int32).toInt = 57 := by decide
    refine lv_icmp_gt (tgt := 26) hx hb dX6_isDigit_19 (by decide) (fun c_3 => ?_) (fun c_3 => ?_)
    · rw [if_pos c_3] at hR
      have i_3 := rlt c_3
      refine lv_iconst (v := (0 : Int32)) hx hb dX6_isDigit_26 (by decide) ?_
      subst hR
      exact W.zret (v := (0 : Int32)) hx hb hr (nb01 (Or.inl rfl)) (fun t ht hW9 => ⟨⟨(0 : Int32), Ω, rfl, ⟨⟨rfl, (Or.inl rfl)⟩, rfl⟩, by rw [oB, ht]; exact hW⟩, hS.F ht⟩) hS.2.2 dX6_isDigit_27
    · rw [if_neg c_3] at hR
      have i_3 := rnlt c_3
      refine lv_iconst (v := (1 : Int32)) hx hb dX6_isDigit_22 (by decide) ?_
      refine lv_goto (tgt := 27) hx hb dX6_isDigit_23 (by decide) ?_
      subst hR
      exact W.zret (v := (1 : Int32)) hx hb hr (nb01 (Or.inr rfl)) (fun t ht hW9 => ⟨⟨(1 : Int32), Ω, rfl, ⟨⟨rfl, (Or.inr rfl)⟩, rfl⟩, by rw [oB, ht]; exact hW⟩, hS.F ht⟩) hS.2.2 dX6_isDigit_27
set_option maxHeartbeats 4000000 in
set_option maxRecDepth 100000 in
theorem c_X5_copyFrom (l : Launch) (G : Gm) (A : Nat → Prop) (Ω : Om) (p0 : Nat) (p1 : Nat) (p0_0 : Int32) (p0_1 : Int32) (p0d_0 : Fn) (p0d_1 : Fn) (p0d_2 : Fn) (p0d_3 : Fn) (p0m_0 : Fn) (p0m_1 : Fn) (p0m_2 : Fn) (p0m_3 : Fn) (p0j_0 : Int32) (p0j_1 : Fn) (p0j_2 : Fn) (p0j_3 : Fn) (p1_0 : Int32) (p1_1 : Int32) (p1d_0 : Fn) (p1d_1 : Fn) (p1d_2 : Fn) (p1d_3 : Fn) (p1m_0 : Fn) (p1m_1 : Fn) (p1m_2 : Fn) (p1m_3 : Fn) (p1j_0 : Int32) (p1j_1 : Fn) (p1j_2 : Fn) (p1j_3 : Fn) (hd_p0_p1 : p0 + 15 ≤ p1 ∨ p1 + 15 ≤ p0) (h_p0 : inSitO G Ω p0 p0_0 p0_1) (h_p0d : inDev G Ω (p0 + 1) p0d_0 p0d_1 p0d_2 p0d_3) (h_p0m : inDev G Ω (p0 + 6) p0m_0 p0m_1 p0m_2 p0m_3) (h_p0j : inJou G Ω (p0 + 11) p0j_0 p0j_1 p0j_2 p0j_3) (h_p1 : inSitO G Ω p1 p1_0 p1_1) (h_p1d : inDev G Ω (p1 + 1) p1d_0 p1d_1 p1d_2 p1d_3) (h_p1m : inDev G Ω (p1 + 6) p1m_0 p1m_1 p1m_2 p1m_3) (h_p1j : inJou G Ω (p1 + 11) p1j_0 p1j_1 p1j_2 p1j_3) : Met l yX5_copyFrom (wz yX5_copyFrom cX5_copyFrom 2 none) ({ frames := 2, cells := 0, slots := 0, locals := 82 } : Room) (va_Pc [.ref p0, .ref p1] (oS G A Ω)) (va_Qv (fun (Ω1 : Om) => inSitO G Ω1 p0 ((f_X5_copyFrom p0d_0 p0d_1 p0d_2 p0d_3 p0m_0 p0m_1 p0m_2 p0m_3 p0j_1 p0j_2 p0j_3 p1_0 p1_1 p1d_0 p1d_1 p1d_2 p1d_3 p1m_0 p1m_1 p1m_2 p1m_3 p1j_0 p1j_1 p1j_2 p1j_3).1) ((f_X5_copyFrom p0d_0 p0d_1 p0d_2 p0d_3 p0m_0 p0m_1 p0m_2 p0m_3 p0j_1 p0j_2 p0j_3 p1_0 p1_1 p1d_0 p1d_1 p1d_2 p1d_3 p1m_0 p1m_1 p1m_2 p1m_3 p1j_0 p1j_1 p1j_2 p1j_3).2.1) ∧ inDev G Ω1 (p0 + 1) ((f_X5_copyFrom p0d_0 p0d_1 p0d_2 p0d_3 p0m_0 p0m_1 p0m_2 p0m_3 p0j_1 p0j_2 p0j_3 p1_0 p1_1 p1d_0 p1d_1 p1d_2 p1d_3 p1m_0 p1m_1 p1m_2 p1m_3 p1j_0 p1j_1 p1j_2 p1j_3).2.2.1) ((f_X5_copyFrom p0d_0 p0d_1 p0d_2 p0d_3 p0m_0 p0m_1 p0m_2 p0m_3 p0j_1 p0j_2 p0j_3 p1_0 p1_1 p1d_0 p1d_1 p1d_2 p1d_3 p1m_0 p1m_1 p1m_2 p1m_3 p1j_0 p1j_1 p1j_2 p1j_3).2.2.2.1) ((f_X5_copyFrom p0d_0 p0d_1 p0d_2 p0d_3 p0m_0 p0m_1 p0m_2 p0m_3 p0j_1 p0j_2 p0j_3 p1_0 p1_1 p1d_0 p1d_1 p1d_2 p1d_3 p1m_0 p1m_1 p1m_2 p1m_3 p1j_0 p1j_1 p1j_2 p1j_3).2.2.2.2.1) ((f_X5_copyFrom p0d_0 p0d_1 p0d_2 p0d_3 p0m_0 p0m_1 p0m_2 p0m_3 p0j_1 p0j_2 p0j_3 p1_0 p1_1 p1d_0 p1d_1 p1d_2 p1d_3 p1m_0 p1m_1 p1m_2 p1m_3 p1j_0 p1j_1 p1j_2 p1j_3).2.2.2.2.2.1) ∧ inDev G Ω1 (p0 + 6) ((f_X5_copyFrom p0d_0 p0d_1 p0d_2 p0d_3 p0m_0 p0m_1 p0m_2 p0m_3 p0j_1 p0j_2 p0j_3 p1_0 p1_1 p1d_0 p1d_1 p1d_2 p1d_3 p1m_0 p1m_1 p1m_2 p1m_3 p1j_0 p1j_1 p1j_2 p1j_3).2.2.2.2.2.2.1) ((f_X5_copyFrom p0d_0 p0d_1 p0d_2 p0d_3 p0m_0 p0m_1 p0m_2 p0m_3 p0j_1 p0j_2 p0j_3 p1_0 p1_1 p1d_0 p1d_1 p1d_2 p1d_3 p1m_0 p1m_1 p1m_2 p1m_3 p1j_0 p1j_1 p1j_2 p1j_3).2.2.2.2.2.2.2.1) ((f_X5_copyFrom p0d_0 p0d_1 p0d_2 p0d_3 p0m_0 p0m_1 p0m_2 p0m_3 p0j_1 p0j_2 p0j_3 p1_0 p1_1 p1d_0 p1d_1 p1d_2 p1d_3 p1m_0 p1m_1 p1m_2 p1m_3 p1j_0 p1j_1 p1j_2 p1j_3).2.2.2.2.2.2.2.2.1) ((f_X5_copyFrom p0d_0 p0d_1 p0d_2 p0d_3 p0m_0 p0m_1 p0m_2 p0m_3 p0j_1 p0j_2 p0j_3 p1_0 p1_1 p1d_0 p1d_1 p1d_2 p1d_3 p1m_0 p1m_1 p1m_2 p1m_3 p1j_0 p1j_1 p1j_2 p1j_3).2.2.2.2.2.2.2.2.2.1) ∧ inJou G Ω1 (p0 + 11) ((f_X5_copyFrom p0d_0 p0d_1 p0d_2 p0d_3 p0m_0 p0m_1 p0m_2 p0m_3 p0j_1 p0j_2 p0j_3 p1_0 p1_1 p1d_0 p1d_1 p1d_2 p1d_3 p1m_0 p1m_1 p1m_2 p1m_3 p1j_0 p1j_1 p1j_2 p1j_3).2.2.2.2.2.2.2.2.2.2.1) ((f_X5_copyFrom p0d_0 p0d_1 p0d_2 p0d_3 p0m_0 p0m_1 p0m_2 p0m_3 p0j_1 p0j_2 p0j_3 p1_0 p1_1 p1d_0 p1d_1 p1d_2 p1d_3 p1m_0 p1m_1 p1m_2 p1m_3 p1j_0 p1j_1 p1j_2 p1j_3).2.2.2.2.2.2.2.2.2.2.2.1) ((f_X5_copyFrom p0d_0 p0d_1 p0d_2 p0d_3 p0m_0 p0m_1 p0m_2 p0m_3 p0j_1 p0j_2 p0j_3 p1_0 p1_1 p1d_0 p1d_1 p1d_2 p1d_3 p1m_0 p1m_1 p1m_2 p1m_3 p1j_0 p1j_1 p1j_2 p1j_3).2.2.2.2.2.2.2.2.2.2.2.2.1) ((f_X5_copyFrom p0d_0 p0d_1 p0d_2 p0d_3 p0m_0 p0m_1 p0m_2 p0m_3 p0j_1 p0j_2 p0j_3 p1_0 p1_1 p1d_0 p1d_1 p1d_2 p1d_3 p1m_0 p1m_1 p1m_2 p1m_3 p1j_0 p1j_1 p1j_2 p1j_3).2.2.2.2.2.2.2.2.2.2.2.2.2) ∧ (∀ q : Nat, (q < p0 ∨ p0 + 1 ≤ q) → (q < (p0 + 1) ∨ (p0 + 1) + 5 ≤ q) → (q < (p0 + 6) ∨ (p0 + 6) + 5 ≤ q) → (q < (p0 + 11) ∨ (p0 + 11) + 4 ≤ q) → Ω1 q = Ω q)) (oB G A) A) 0 0 A := by
  refine Met.ofW (cc := cX5_copyFrom) (maxL := 2) (ret := none) (by decide) rfl ?_
  intro p e s m args below meth c s₁ B hml hv
  obtain ⟨rfl, hW, hK, hN, hZ⟩ := hv
  have hx := B.exec
  have hb := B.bytes
  have hr := B.returns
  have hts : ∀ w ∈ gt, w.before _ s = true := fun w hw => atoms_spec (ws := wz yX5_copyFrom cX5_copyFrom 2 none) B.pre w (List.mem_cons_of_mem _ hw)
  have hown : s.vm.findClass RX5 = some m.cls := findClass_of_methodNamed B.named
  have hlocks := B.notSynchronized
  have hA : ∀ q, A q → A q := fun _ h => h
  have hS : va_S A s.heap s.heap [] := va_S.rf
  have hS0 := hS
  have hl := lv_entry ([.ref p0, .ref p1]) (n := 2) (Nat.le_of_ble_eq_true rfl)
  rw [lg_entry_eq]
  generalize (lg_sl ([.ref p0, .ref p1]) ++ List.replicate (2 - (lg_sl ([.ref p0, .ref p1])).length) Slot.unset).toArray = ls at hl ⊢
  have hl : lv_has ls 2 [(0, .ref p0), (1, .ref p1)] := hl
  have hE : ∀ q : Nat, (q < p0 ∨ p0 + 1 ≤ q) → (q < (p0 + 1) ∨ (p0 + 1) + 5 ≤ q) → (q < (p0 + 6) ∨ (p0 + 6) + 5 ≤ q) → (q < (p0 + 11) ∨ (p0 + 11) + 4 ≤ q) → Ω q = Ω q := by intros; rfl
  generalize hR : (f_X5_copyFrom p0d_0 p0d_1 p0d_2 p0d_3 p0m_0 p0m_1 p0m_2 p0m_3 p0j_1 p0j_2 p0j_3 p1_0 p1_1 p1d_0 p1d_1 p1d_2 p1d_3 p1m_0 p1m_1 p1m_2 p1m_3 p1j_0 p1j_1 p1j_2 p1j_3) = R
  rw [f_X5_copyFrom] at hR
  refine lv_aload_n hx hb dX5_copyFrom_0 rfl (lv_at hl 0 rfl) ?_
  refine o_get hx hb hts hown hK hW (inSitO_o h_p0) rfl ig5 0 (by decide) fl_X5_12 rfl dX5_copyFrom_1 ?_
  refine lv_aload_n hx hb dX5_copyFrom_4 rfl (lv_at hl 1 rfl) ?_
  refine o_get hx hb hts hown hK hW (inSitO_o h_p1) rfl ig5 0 (by decide) fl_X5_12 rfl dX5_copyFrom_5 ?_
  refine o_Vv (rest := []) (As := [.ref (p1 + 1)]) (n := 1) hx hb hml hown hts hK hN hZ hW hS hA (c_X1_copyFrom l G A Ω (p0 + 1) (p1 + 1) p0d_0 p0d_1 p0d_2 p0d_3 p1d_0 p1d_1 p1d_2 p1d_3 (by omega) h_p0d h_p1d) (inDev_o h_p0d) rfl (good_V ml_X5_32 im_X1_copyFrom se_X1_copyFrom ini_X1 co_X1_copyFrom) (by decide +kernel) ⟨Nat.zero_le _, Nat.zero_le _⟩ hl.1 (Nat.le_of_ble_eq_true rfl) rfl rfl dX5_copyFrom_8 (fun Ω_1 H locs hp hW hS => ?_)
  obtain ⟨h_p0d, hF_1⟩ := hp
  have h_p0 := h_p0.keep (fun q h1 h2 => hF_1 q (by omega))
  have h_p0m := h_p0m.keep (fun q h1 h2 => hF_1 q (by omega))
  have h_p0j := h_p0j.keep (fun q h1 h2 => hF_1 q (by omega))
  have h_p1 := h_p1.keep (fun q h1 h2 => hF_1 q (by omega))
  have h_p1d := h_p1d.keep (fun q h1 h2 => hF_1 q (by omega))
  have h_p1m := h_p1m.keep (fun q h1 h2 => hF_1 q (by omega))
  have h_p1j := h_p1j.keep (fun q h1 h2 => hF_1 q (by omega))
  have hE : ∀ q : Nat, (q < p0 ∨ p0 + 1 ≤ q) → (q < (p0 + 1) ∨ (p0 + 1) + 5 ≤ q) → (q < (p0 + 6) ∨ (p0 + 6) + 5 ≤ q) → (q < (p0 + 11) ∨ (p0 + 11) + 4 ≤ q) → Ω_1 q = Ω q := fun q g0 g1 g2 g3 => (hF_1 q (by omega)).trans (hE q g0 g1 g2 g3)
  generalize (f_X1_copyFrom p0d_0 p0d_1 p0d_2 p0d_3 p1d_0 p1d_1 p1d_2 p1d_3) = Z_1 at h_p0d hR
  obtain ⟨z1_0, z1_1, z1_2, z1_3⟩ := Z_1
  dsimp only at h_p0d hR
  rw [f_X5_copyFrom_C11] at hR
  refine lv_aload_n hx hb dX5_copyFrom_11 rfl (lv_at hl 0 rfl) ?_
  refine o_get hx hb hts hown hK hW (inSitO_o h_p0) rfl ig5 1 (by decide) fl_X5_18 rfl dX5_copyFrom_12 ?_
  refine lv_aload_n hx hb dX5_copyFrom_15 rfl (lv_at hl 1 rfl) ?_
  refine o_get hx hb hts hown hK hW (inSitO_o h_p1) rfl ig5 1 (by decide) fl_X5_18 rfl dX5_copyFrom_16 ?_
  refine o_Vv (rest := []) (As := [.ref (p1 + 6)]) (n := 1) hx hb hml hown hts hK hN hZ hW hS hA (c_X1_copyFrom l G A Ω_1 (p0 + 6) (p1 + 6) p0m_0 p0m_1 p0m_2 p0m_3 p1m_0 p1m_1 p1m_2 p1m_3 (by omega) h_p0m h_p1m) (inDev_o h_p0m) rfl (good_V ml_X5_32 im_X1_copyFrom se_X1_copyFrom ini_X1 co_X1_copyFrom) (by decide +kernel) ⟨Nat.zero_le _, Nat.zero_le _⟩ hl.1 (Nat.le_of_ble_eq_true rfl) rfl rfl dX5_copyFrom_19 (fun Ω_2 H locs hp hW hS => ?_)
  obtain ⟨h_p0m, hF_2⟩ := hp
  have h_p0 := h_p0.keep (fun q h1 h2 => hF_2 q (by omega))
  have h_p0d := h_p0d.keep (fun q h1 h2 => hF_2 q (by omega))
  have h_p0j := h_p0j.keep (fun q h1 h2 => hF_2 q (by omega))
  have h_p1 := h_p1.keep (fun q h1 h2 => hF_2 q (by omega))
  have h_p1d := h_p1d.keep (fun q h1 h2 => hF_2 q (by omega))
  have h_p1m := h_p1m.keep (fun q h1 h2 => hF_2 q (by omega))
  have h_p1j := h_p1j.keep (fun q h1 h2 => hF_2 q (by omega))
  have hE : ∀ q : Nat, (q < p0 ∨ p0 + 1 ≤ q) → (q < (p0 + 1) ∨ (p0 + 1) + 5 ≤ q) → (q < (p0 + 6) ∨ (p0 + 6) + 5 ≤ q) → (q < (p0 + 11) ∨ (p0 + 11) + 4 ≤ q) → Ω_2 q = Ω q := fun q g0 g1 g2 g3 => (hF_2 q (by omega)).trans (hE q g0 g1 g2 g3)
  generalize (f_X1_copyFrom p0m_0 p0m_1 p0m_2 p0m_3 p1m_0 p1m_1 p1m_2 p1m_3) = Z_2 at h_p0m hR
  obtain ⟨z2_0, z2_1, z2_2, z2_3⟩ := Z_2
  dsimp only at h_p0m hR
  rw [f_X5_copyFrom_C22] at hR
  refine lv_aload_n hx hb dX5_copyFrom_22 rfl (lv_at hl 0 rfl) ?_
  refine o_get hx hb hts hown hK hW (inSitO_o h_p0) rfl ig5 2 (by decide) fl_X5_24 rfl dX5_copyFrom_23 ?_
  refine lv_aload_n hx hb dX5_copyFrom_26 rfl (lv_at hl 1 rfl) ?_
  refine o_get hx hb hts hown hK hW (inSitO_o h_p1) rfl ig5 2 (by decide) fl_X5_24 rfl dX5_copyFrom_27 ?_
  refine o_Vv (rest := []) (As := [.ref (p1 + 11)]) (n := 1) hx hb hml hown hts hK hN hZ hW hS hA (c_X3_copyFrom l G A Ω_2 (p0 + 11) (p1 + 11) p0j_0 p0j_1 p0j_2 p0j_3 p1j_0 p1j_1 p1j_2 p1j_3 (by omega) h_p0j h_p1j) (inJou_o h_p0j) rfl (good_V ml_X5_36 im_X3_copyFrom se_X3_copyFrom ini_X3 co_X3_copyFrom) (by decide +kernel) ⟨Nat.zero_le _, Nat.zero_le _⟩ hl.1 (Nat.le_of_ble_eq_true rfl) rfl rfl dX5_copyFrom_30 (fun Ω_3 H locs hp hW hS => ?_)
  obtain ⟨h_p0j, hF_3⟩ := hp
  have h_p0 := h_p0.keep (fun q h1 h2 => hF_3 q (by omega))
  have h_p0d := h_p0d.keep (fun q h1 h2 => hF_3 q (by omega))
  have h_p0m := h_p0m.keep (fun q h1 h2 => hF_3 q (by omega))
  have h_p1 := h_p1.keep (fun q h1 h2 => hF_3 q (by omega))
  have h_p1d := h_p1d.keep (fun q h1 h2 => hF_3 q (by omega))
  have h_p1m := h_p1m.keep (fun q h1 h2 => hF_3 q (by omega))
  have h_p1j := h_p1j.keep (fun q h1 h2 => hF_3 q (by omega))
  have hE : ∀ q : Nat, (q < p0 ∨ p0 + 1 ≤ q) → (q < (p0 + 1) ∨ (p0 + 1) + 5 ≤ q) → (q < (p0 + 6) ∨ (p0 + 6) + 5 ≤ q) → (q < (p0 + 11) ∨ (p0 + 11) + 4 ≤ q) → Ω_3 q = Ω q := fun q g0 g1 g2 g3 => (hF_3 q (by omega)).trans (hE q g0 g1 g2 g3)
  generalize (f_X3_copyFrom p0j_1 p0j_2 p0j_3 p1j_0 p1j_1 p1j_2 p1j_3) = Z_3 at h_p0j hR
  obtain ⟨z3_0, z3_1, z3_2, z3_3⟩ := Z_3
  dsimp only at h_p0j hR
  rw [f_X5_copyFrom_C33] at hR
  refine lv_aload_n hx hb dX5_copyFrom_33 rfl (lv_at hl 0 rfl) ?_
  refine lv_aload_n hx hb dX5_copyFrom_34 rfl (lv_at hl 1 rfl) ?_
  refine o_get hx hb hts hown hK hW (inSitO_o h_p1) rfl ig5 3 (by decide) fl_X5_39 rfl dX5_copyFrom_35 ?_
  refine vSitO_3 hx hb hts hown hK hW hS hA h_p0 fl_X5_39 dX5_copyFrom_38 (fun Ω_4 H locs h_p0 hF_4 hW hS => ?_)
  have h_p0d := h_p0d.keep (fun q h1 h2 => hF_4 q (by omega))
  have h_p0m := h_p0m.keep (fun q h1 h2 => hF_4 q (by omega))
  have h_p0j := h_p0j.keep (fun q h1 h2 => hF_4 q (by omega))
  have h_p1 := h_p1.keep (fun q h1 h2 => hF_4 q (by omega))
  have h_p1d := h_p1d.keep (fun q h1 h2 => hF_4 q (by omega))
  have h_p1m := h_p1m.keep (fun q h1 h2 => hF_4 q (by omega))
  have h_p1j := h_p1j.keep (fun q h1 h2 => hF_4 q (by omega))
  have hE : ∀ q : Nat, (q < p0 ∨ p0 + 1 ≤ q) → (q < (p0 + 1) ∨ (p0 + 1) + 5 ≤ q) → (q < (p0 + 6) ∨ (p0 + 6) + 5 ≤ q) → (q < (p0 + 11) ∨ (p0 + 11) + 4 ≤ q) → Ω_4 q = Ω q := fun q g0 g1 g2 g3 => (hF_4 q (by omega)).trans (hE q g0 g1 g2 g3)
  refine lv_aload_n hx hb dX5_copyFrom_41 rfl (lv_at hl 0 rfl) ?_
  refine lv_aload_n hx hb dX5_copyFrom_42 rfl (lv_at hl 1 rfl) ?_
  refine o_get hx hb hts hown hK hW (inSitO_o h_p1) rfl ig5 4 (by decide) fl_X5_28 rfl dX5_copyFrom_43 ?_
  refine vSitO_4 hx hb hts hown hK hW hS hA h_p0 fl_X5_28 dX5_copyFrom_46 (fun Ω_5 H locs h_p0 hF_5 hW hS => ?_)
  have h_p0d := h_p0d.keep (fun q h1 h2 => hF_5 q (by omega))
  have h_p0m := h_p0m.keep (fun q h1 h2 => hF_5 q (by omega))
  have h_p0j := h_p0j.keep (fun q h1 h2 => hF_5 q (by omega))
  have h_p1 := h_p1.keep (fun q h1 h2 => hF_5 q (by omega))
  have h_p1d := h_p1d.keep (fun q h1 h2 => hF_5 q (by omega))
  have h_p1m := h_p1m.keep (fun q h1 h2 => hF_5 q (by omega))
  have h_p1j := h_p1j.keep (fun q h1 h2 => hF_5 q (by omega))
  have hE : ∀ q : Nat, (q < p0 ∨ p0 + 1 ≤ q) → (q < (p0 + 1) ∨ (p0 + 1) + 5 ≤ q) → (q < (p0 + 6) ∨ (p0 + 6) + 5 ≤ q) → (q < (p0 + 11) ∨ (p0 + 11) + 4 ≤ q) → Ω_5 q = Ω q := fun q g0 g1 g2 g3 => (hF_5 q (by omega)).trans (hE q g0 g1 g2 g3)
  subst hR
  exact W.vret hx hb hr (fun t ht hW9 => ⟨⟨Ω_5, rfl, ⟨h_p0, h_p0d, h_p0m, h_p0j, hE⟩, by rw [oB, ht]; exact hW⟩, hS.F ht⟩) hS.2.2 dX5_copyFrom_49
set_option maxHeartbeats 4000000 in
set_option maxRecDepth 100000 in
theorem c_X5_startWith (l : Launch) (G : Gm) (A : Nat → Prop) (Ω : Om) (p0 : Nat) (p1 : Nat) (p0_0 : Int32) (p0_1 : Int32) (p0d_0 : Fn) (p0d_1 : Fn) (p0d_2 : Fn) (p0d_3 : Fn) (p0m_0 : Fn) (p0m_1 : Fn) (p0m_2 : Fn) (p0m_3 : Fn) (p0j_0 : Int32) (p0j_1 : Fn) (p0j_2 : Fn) (p0j_3 : Fn) (p1_0 : Blk) (hd_p0_p1 : p0 + 15 ≤ p1 ∨ p1 + 13 ≤ p0) (hB_p1 : BlkInv p1_0) (h_p0 : inSitO G Ω p0 p0_0 p0_1) (h_p0d : inDev G Ω (p0 + 1) p0d_0 p0d_1 p0d_2 p0d_3) (h_p0m : inDev G Ω (p0 + 6) p0m_0 p0m_1 p0m_2 p0m_3) (h_p0j : inJou G Ω (p0 + 11) p0j_0 p0j_1 p0j_2 p0j_3) (h_p1 : inBlk G Ω p1 p1_0) : Met l yX5_startWith (wz yX5_startWith cX5_startWith 2 none) ({ frames := 4, cells := 0, slots := 0, locals := 90 } : Room) (va_Pc [.ref p0, .ref p1] (oS G A Ω)) (va_Qv (fun (Ω1 : Om) => inSitO G Ω1 p0 ((f_X5_startWith p0d_0 p0d_1 p0d_2 p0d_3 p0m_0 p0m_1 p0m_2 p0m_3 p1_0).1) ((f_X5_startWith p0d_0 p0d_1 p0d_2 p0d_3 p0m_0 p0m_1 p0m_2 p0m_3 p1_0).2.1) ∧ inDev G Ω1 (p0 + 1) ((f_X5_startWith p0d_0 p0d_1 p0d_2 p0d_3 p0m_0 p0m_1 p0m_2 p0m_3 p1_0).2.2.1) ((f_X5_startWith p0d_0 p0d_1 p0d_2 p0d_3 p0m_0 p0m_1 p0m_2 p0m_3 p1_0).2.2.2.1) ((f_X5_startWith p0d_0 p0d_1 p0d_2 p0d_3 p0m_0 p0m_1 p0m_2 p0m_3 p1_0).2.2.2.2.1) ((f_X5_startWith p0d_0 p0d_1 p0d_2 p0d_3 p0m_0 p0m_1 p0m_2 p0m_3 p1_0).2.2.2.2.2.1) ∧ inDev G Ω1 (p0 + 6) ((f_X5_startWith p0d_0 p0d_1 p0d_2 p0d_3 p0m_0 p0m_1 p0m_2 p0m_3 p1_0).2.2.2.2.2.2.1) ((f_X5_startWith p0d_0 p0d_1 p0d_2 p0d_3 p0m_0 p0m_1 p0m_2 p0m_3 p1_0).2.2.2.2.2.2.2.1) ((f_X5_startWith p0d_0 p0d_1 p0d_2 p0d_3 p0m_0 p0m_1 p0m_2 p0m_3 p1_0).2.2.2.2.2.2.2.2.1) ((f_X5_startWith p0d_0 p0d_1 p0d_2 p0d_3 p0m_0 p0m_1 p0m_2 p0m_3 p1_0).2.2.2.2.2.2.2.2.2.1) ∧ inJou G Ω1 (p0 + 11) ((f_X5_startWith p0d_0 p0d_1 p0d_2 p0d_3 p0m_0 p0m_1 p0m_2 p0m_3 p1_0).2.2.2.2.2.2.2.2.2.2) p0j_1 p0j_2 p0j_3 ∧ (∀ q : Nat, (q < p0 ∨ p0 + 1 ≤ q) → (q < (p0 + 1) ∨ (p0 + 1) + 5 ≤ q) → (q < (p0 + 6) ∨ (p0 + 6) + 5 ≤ q) → (q < (p0 + 11) ∨ (p0 + 11) + 4 ≤ q) → Ω1 q = Ω q)) (oB G A) A) 0 0 A := by
  refine Met.ofW (cc := cX5_startWith) (maxL := 2) (ret := none) (by decide) rfl ?_
  intro p e s m args below meth c s₁ B hml hv
  obtain ⟨rfl, hW, hK, hN, hZ⟩ := hv
  have hx := B.exec
  have hb := B.bytes
  have hr := B.returns
  have hts : ∀ w ∈ gt, w.before _ s = true := fun w hw => atoms_spec (ws := wz yX5_startWith cX5_startWith 2 none) B.pre w (List.mem_cons_of_mem _ hw)
  have hown : s.vm.findClass RX5 = some m.cls := findClass_of_methodNamed B.named
  have hlocks := B.notSynchronized
  have hA : ∀ q, A q → A q := fun _ h => h
  have hS : va_S A s.heap s.heap [] := va_S.rf
  have hS0 := hS
  have hl := lv_entry ([.ref p0, .ref p1]) (n := 2) (Nat.le_of_ble_eq_true rfl)
  rw [lg_entry_eq]
  generalize (lg_sl ([.ref p0, .ref p1]) ++ List.replicate (2 - (lg_sl ([.ref p0, .ref p1])).length) Slot.unset).toArray = ls at hl ⊢
  have hl : lv_has ls 2 [(0, .ref p0), (1, .ref p1)] := hl
  have hE : ∀ q : Nat, (q < p0 ∨ p0 + 1 ≤ q) → (q < (p0 + 1) ∨ (p0 + 1) + 5 ≤ q) → (q < (p0 + 6) ∨ (p0 + 6) + 5 ≤ q) → (q < (p0 + 11) ∨ (p0 + 11) + 4 ≤ q) → Ω q = Ω q := by intros; rfl
  generalize hR : (f_X5_startWith p0d_0 p0d_1 p0d_2 p0d_3 p0m_0 p0m_1 p0m_2 p0m_3 p1_0) = R
  rw [f_X5_startWith] at hR
  refine lv_aload_n hx hb dX5_startWith_0 rfl (lv_at hl 0 rfl) ?_
  refine o_get hx hb hts hown hK hW (inSitO_o h_p0) rfl ig5 0 (by decide) fl_X5_12 rfl dX5_startWith_1 ?_
  refine lv_aload_n hx hb dX5_startWith_4 rfl (lv_at hl 1 rfl) ?_
  refine o_Vv (rest := []) (As := [.ref p1]) (n := 1) hx hb hml hown hts hK hN hZ hW hS hA (c_X1_mend l G A Ω (p0 + 1) p1 p0d_0 p0d_1 p0d_2 p0d_3 p1_0 (by omega) hB_p1 h_p0d h_p1) (inDev_o h_p0d) rfl (good_V ml_X5_42 im_X1_mend se_X1_mend ini_X1 co_X1_mend) (by decide +kernel) ⟨Nat.zero_le _, Nat.zero_le _⟩ hl.1 (Nat.le_of_ble_eq_true rfl) rfl rfl dX5_startWith_5 (fun Ω_1 H locs hp hW hS => ?_)
  obtain ⟨h_p0d, hF_1⟩ := hp
  have h_p0 := h_p0.keep (fun q h1 h2 => hF_1 q (by omega))
  have h_p0m := h_p0m.keep (fun q h1 h2 => hF_1 q (by omega))
  have h_p0j := h_p0j.keep (fun q h1 h2 => hF_1 q (by omega))
  have h_p1 := h_p1.keep (fun q h1 h2 => hF_1 q (by omega))
  have hE : ∀ q : Nat, (q < p0 ∨ p0 + 1 ≤ q) → (q < (p0 + 1) ∨ (p0 + 1) + 5 ≤ q) → (q < (p0 + 6) ∨ (p0 + 6) + 5 ≤ q) → (q < (p0 + 11) ∨ (p0 + 11) + 4 ≤ q) → Ω_1 q = Ω q := fun q g0 g1 g2 g3 => (hF_1 q (by omega)).trans (hE q g0 g1 g2 g3)
  refine lv_aload_n hx hb dX5_startWith_8 rfl (lv_at hl 0 rfl) ?_
  refine o_get hx hb hts hown hK hW (inSitO_o h_p0) rfl ig5 1 (by decide) fl_X5_18 rfl dX5_startWith_9 ?_
  refine lv_aload_n hx hb dX5_startWith_12 rfl (lv_at hl 1 rfl) ?_
  refine o_Vv (rest := []) (As := [.ref p1]) (n := 1) hx hb hml hown hts hK hN hZ hW hS hA (c_X1_mend l G A Ω_1 (p0 + 6) p1 p0m_0 p0m_1 p0m_2 p0m_3 p1_0 (by omega) hB_p1 h_p0m h_p1) (inDev_o h_p0m) rfl (good_V ml_X5_42 im_X1_mend se_X1_mend ini_X1 co_X1_mend) (by decide +kernel) ⟨Nat.zero_le _, Nat.zero_le _⟩ hl.1 (Nat.le_of_ble_eq_true rfl) rfl rfl dX5_startWith_13 (fun Ω_2 H locs hp hW hS => ?_)
  obtain ⟨h_p0m, hF_2⟩ := hp
  have h_p0 := h_p0.keep (fun q h1 h2 => hF_2 q (by omega))
  have h_p0d := h_p0d.keep (fun q h1 h2 => hF_2 q (by omega))
  have h_p0j := h_p0j.keep (fun q h1 h2 => hF_2 q (by omega))
  have h_p1 := h_p1.keep (fun q h1 h2 => hF_2 q (by omega))
  have hE : ∀ q : Nat, (q < p0 ∨ p0 + 1 ≤ q) → (q < (p0 + 1) ∨ (p0 + 1) + 5 ≤ q) → (q < (p0 + 6) ∨ (p0 + 6) + 5 ≤ q) → (q < (p0 + 11) ∨ (p0 + 11) + 4 ≤ q) → Ω_2 q = Ω q := fun q g0 g1 g2 g3 => (hF_2 q (by omega)).trans (hE q g0 g1 g2 g3)
  refine lv_aload_n hx hb dX5_startWith_16 rfl (lv_at hl 0 rfl) ?_
  refine lv_aload_n hx hb dX5_startWith_17 rfl (lv_at hl 1 rfl) ?_
  refine o_Vv (rest := []) (As := [.ref p1]) (n := 1) hx hb hml hown hts hK hN hZ hW hS hA (c_X5_restart l G A Ω_2 p0 p1 p0_0 p0_1 p0d_0 p0d_1 p0d_2 (f_X1_mend p0d_3 p1_0) p0m_0 p0m_1 p0m_2 (f_X1_mend p0m_3 p1_0) p0j_0 p0j_1 p0j_2 p0j_3 p1_0 (by omega) hB_p1 h_p0 h_p0d h_p0m h_p0j h_p1) (inSitO_o h_p0) rfl (good_V ml_X5_46 im_X5_restart se_X5_restart ini_X5 co_X5_restart) (by decide +kernel) ⟨Nat.zero_le _, Nat.zero_le _⟩ hl.1 (Nat.le_of_ble_eq_true rfl) rfl rfl dX5_startWith_18 (fun Ω_3 H locs hp hW hS => ?_)
  obtain ⟨h_p0, h_p0d, h_p0m, h_p0j, hF_3⟩ := hp
  have h_p1 := h_p1.keep (fun q h1 h2 => hF_3 q (by omega) (by omega) (by omega) (by omega))
  have hE : ∀ q : Nat, (q < p0 ∨ p0 + 1 ≤ q) → (q < (p0 + 1) ∨ (p0 + 1) + 5 ≤ q) → (q < (p0 + 6) ∨ (p0 + 6) + 5 ≤ q) → (q < (p0 + 11) ∨ (p0 + 11) + 4 ≤ q) → Ω_3 q = Ω q := fun q g0 g1 g2 g3 => (hF_3 q (by omega) (by omega) (by omega) (by omega)).trans (hE q g0 g1 g2 g3)
  generalize (f_X5_restart p0d_0 p0d_1 p0d_2 p0m_0 p0m_1 p0m_2 p1_0) = Z_3 at h_p0 h_p0d h_p0m h_p0j hR
  obtain ⟨z3_0, z3_1, z3_2, z3_3, z3_4, z3_5, z3_6, z3_7, z3_8⟩ := Z_3
  dsimp only at h_p0 h_p0d h_p0m h_p0j hR
  rw [f_X5_startWith_C21] at hR
  subst hR
  exact W.vret hx hb hr (fun t ht hW9 => ⟨⟨Ω_3, rfl, ⟨h_p0, h_p0d, h_p0m, h_p0j, hE⟩, by rw [oB, ht]; exact hW⟩, hS.F ht⟩) hS.2.2 dX5_startWith_21
