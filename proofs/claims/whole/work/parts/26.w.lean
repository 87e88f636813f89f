set_option maxHeartbeats 4000000 in
set_option maxRecDepth 100000 in
theorem c_X9_wouldTell (l : Launch) (G : Gm) (A : Nat → Prop) (Ω : Om) (p0 : Nat) (p0_0 : Fn) (p0_1 : Fn) (p0_2 : Fn) (p0_3 : Fn) (p0_4 : Int32) (p0_5 : Fn) (p0_6 : Fn) (p0_7 : Fn) (p0_8 : Int32) (p0_9 : Int32) (p0_10 : Int32) (p0_11 : Int32) (p0_12 : Int32) (p0_13 : Int32) (x1 : Int32) (x2 : Int32) (hM_p0 : ToldInv p0_0) (hn : 0 ≤ (p0_2 (72 : Int32).toNatClampNeg).toInt ∧ (p0_2 (72 : Int32).toNatClampNeg).toInt ≤ 20) (hf : x1.toInt = -9 ∨ (0 ≤ x1.toInt ∧ x1.toInt < 12)) (h_p0 : inMod G Ω p0 p0_0 p0_1 p0_2 p0_3 p0_4 p0_5 p0_6 p0_7 p0_8 p0_9 p0_10 p0_11 p0_12 p0_13) : Met l yX9_wouldTell (wz yX9_wouldTell cX9_wouldTell 6 (some .boolean)) ({ frames := 4, cells := 0, slots := 0, locals := 102 } : Room) (va_Pc [.ref p0, .int x1, .int x2] (oS G A Ω)) (va_Qi (fun (r : Int32) (Ω1 : Om) => r = (f_X9_wouldTell p0_0 p0_2 x1 x2).1 ∧ (r = 0 ∨ r = 1) ∧ inMod G Ω1 p0 p0_0 p0_1 ((f_X9_wouldTell p0_0 p0_2 x1 x2).2) p0_3 p0_4 p0_5 p0_6 p0_7 p0_8 p0_9 p0_10 p0_11 p0_12 p0_13 ∧ (∀ q : Nat, (q < p0 ∨ p0 + 8 ≤ q) → Ω1 q = Ω q)) (oB G A) A) 0 0 A := by
  refine Met.ofW (cc := cX9_wouldTell) (maxL := 6) (ret := (some .boolean)) (by decide) rfl ?_
  intro p e s m args below meth c s₁ B hml hv
  obtain ⟨rfl, hW, hK, hN, hZ⟩ := hv
  have hx := B.exec
  have hb := B.bytes
  have hr := B.returns
  have hts : ∀ w ∈ gt, w.before _ s = true := fun w hw => atoms_spec (ws := wz yX9_wouldTell cX9_wouldTell 6 (some .boolean)) B.pre w (List.mem_cons_of_mem _ hw)
  have hown : s.vm.findClass RX9 = some m.cls := findClass_of_methodNamed B.named
  have hlocks := B.notSynchronized
  have hA : ∀ q, A q → A q := fun _ h => h
  have hS : va_S A s.heap s.heap [] := va_S.rf
  have hS0 := hS
  have hl := lv_entry ([.ref p0, .int x1, .int x2]) (n := 6) (Nat.le_of_ble_eq_true rfl)
  rw [lg_entry_eq]
  generalize (lg_sl ([.ref p0, .int x1, .int x2]) ++ List.replicate (6 - (lg_sl ([.ref p0, .int x1, .int x2])).length) Slot.unset).toArray = ls at hl ⊢
  have hl : lv_has ls 6 [(0, .ref p0), (1, .int x1), (2, .int x2)] := hl
  have hE : ∀ q : Nat, (q < p0 ∨ p0 + 8 ≤ q) → Ω q = Ω q := by intros; rfl
  generalize hR : (f_X9_wouldTell p0_0 p0_2 x1 x2) = R
  rw [f_X9_wouldTell] at hR
  refine lv_aload_n hx hb dX9_wouldTell_0 rfl (lv_at hl 0 rfl) ?_
  refine lv_sipush (v := (135 : Int32)) hx hb dX9_wouldTell_1 (by decide) ?_
  have j_1 : (135 : Int32).toInt = 135 := by decide
  refine o_Vv (rest := []) (As := [.int (135 : Int32)]) (n := 1) hx hb hml hown hts hK hN hZ hW hS hA (c_X9_repair l G A Ω p0 p0_0 p0_1 p0_2 p0_3 p0_4 p0_5 p0_6 p0_7 p0_8 p0_9 p0_10 p0_11 p0_12 p0_13 (135 : Int32) hM_p0 (by omega) h_p0) (inMod_o h_p0) rfl (good_V ml_X9_50 im_X9_repair se_X9_repair ini_X9 co_X9_repair) (by decide +kernel) ⟨Nat.zero_le _, Nat.zero_le _⟩ hl.1 (Nat.le_of_ble_eq_true rfl) rfl rfl dX9_wouldTell_4 (fun Ω_2 H locs hp hW hS => ?_)
  obtain ⟨h_p0, hF_2⟩ := hp
  have hE : ∀ q : Nat, (q < p0 ∨ p0 + 8 ≤ q) → Ω_2 q = Ω q := fun q g0 => (hF_2 q (by omega)).trans (hE q g0)
  have q72_2 : ((f_X9_repair p0_0 p0_2 (135 : Int32)) (72 : Int32).toNatClampNeg).toInt = (p0_2 (72 : Int32).toNatClampNeg).toInt := congrArg Int32.toInt (FR_repair (j := 72) (by omega) (by omega))
  refine lv_iload_n hx hb dX9_wouldTell_7 rfl (lv_at hl 1 rfl) ?_
  refine lv_bipush (v := (-9 : Int32)) hx hb dX9_wouldTell_8 (by decide) ?_
  have J24 : ∀ (p0_2_3 : Fn) (Ω_4 : Om) (H : Heap) (locs : List Loc), (0 ≤ (p0_2_3 (72 : Int32).toNatClampNeg).toInt ∧ (p0_2_3 (72 : Int32).toNatClampNeg).toInt ≤ 20) → inMod G Ω_4 p0 p0_0 p0_1 p0_2_3 p0_3 p0_4 p0_5 p0_6 p0_7 p0_8 p0_9 p0_10 p0_11 p0_12 p0_13 → (∀ q : Nat, (q < p0 ∨ p0 + 8 ≤ q) → Ω_4 q = Ω q) → oW G A Ω_4 H → va_S A s.heap H locs → ∀ ls : Array Slot, lv_has ls 6 [(0, .ref p0)] → (f_X9_wouldTell_J24 p0_0 p0_2_3) = R → W p l e (headSpec (wz yX9_wouldTell cX9_wouldTell 6 (some .boolean)) ({ frames := 4, cells := 0, slots := 0, locals := 102 } : Room)).room s m ([.ref p0, .int x1, .int x2] : List Value).toArray below meth c H locs 0 0 (MQ below (va_Qi (fun (r : Int32) (Ω1 : Om) => r = R.1 ∧ (r = 0 ∨ r = 1) ∧ inMod G Ω1 p0 p0_0 p0_1 (R.2) p0_3 p0_4 p0_5 p0_6 p0_7 p0_8 p0_9 p0_10 p0_11 p0_12 p0_13 ∧ (∀ q : Nat, (q < p0 ∨ p0 + 8 ≤ q) → Ω1 q = Ω q)) (oB G A) A) ([.ref p0, .int x1, .int x2] : List Value).toArray s 0 0 A) (F0 m 24 ls []) := by
    intro p0_2_3 Ω_4 H locs v_24_0 h_p0 hE hW hS ls hl hR
    rw [f_X9_wouldTell_J24] at hR
    refine lv_aload_n hx hb dX9_wouldTell_24 rfl (lv_at hl 0 rfl) ?_
    refine lv_sipush (v := (135 : Int32)) hx hb dX9_wouldTell_25 (by decide) ?_
    refine o_Vv (rest := []) (As := [.int (135 : Int32)]) (n := 1) hx hb hml hown hts hK hN hZ hW hS hA (c_X9_reset l G A Ω_4 p0 p0_0 p0_1 p0_2_3 p0_3 p0_4 p0_5 p0_6 p0_7 p0_8 p0_9 p0_10 p0_11 p0_12 p0_13 (135 : Int32) hM_p0 (by omega) h_p0) (inMod_o h_p0) rfl (good_V ml_X9_54 im_X9_reset se_X9_reset ini_X9 co_X9_reset) (by decide +kernel) ⟨Nat.zero_le _, Nat.zero_le _⟩ hl.1 (Nat.le_of_ble_eq_true rfl) rfl rfl dX9_wouldTell_28 (fun Ω_5 H locs hp hW hS => ?_)
    obtain ⟨h_p0, hF_5⟩ := hp
    have hE : ∀ q : Nat, (q < p0 ∨ p0 + 8 ≤ q) → Ω_5 q = Ω q := fun q g0 => (hF_5 q (by omega)).trans (hE q g0)
    have q72_5 : ((f_X9_reset p0_0 p0_2_3 (135 : Int32)) (72 : Int32).toNatClampNeg).toInt = (p0_2_3 (72 : Int32).toNatClampNeg).toInt := congrArg Int32.toInt (FR_reset (j := 72) (by omega) (by omega))
    refine lv_iconst (v := (1 : Int32)) hx hb dX9_wouldTell_31 (by decide) ?_
    refine lv_istore_n (lv' := [(3, .int (1 : Int32)), (0, .ref p0)]) hx hb dX9_wouldTell_32 rfl hl (by decide) rfl (fun ls hl => ?_)
    refine lv_iconst (v := (0 : Int32)) hx hb dX9_wouldTell_33 (by decide) ?_
    refine lv_istore (lv' := [(4, .int (0 : Int32)), (3, .int (1 : Int32)), (0, .ref p0)]) hx hb dX9_wouldTell_34 hl (by decide) rfl (fun ls hl => ?_)
    have L36 : ∀ (n_7 : Nat) (x3_6 : Int32) (x4_6 : Int32) (p0_2_6 : Fn) (Ω_8 : Om) (H : Heap) (locs : List Loc), (0 ≤ x4_6.toInt ∧ x4_6.toInt ≤ 72 ∧ 72 - x4_6.toInt < n_7) → (0 ≤ (p0_2_6 (72 : Int32).toNatClampNeg).toInt ∧ (p0_2_6 (72 : Int32).toNatClampNeg).toInt ≤ 20) → (x3_6 = 0 ∨ x3_6 = 1) → inMod G Ω_8 p0 p0_0 p0_1 p0_2_6 p0_3 p0_4 p0_5 p0_6 p0_7 p0_8 p0_9 p0_10 p0_11 p0_12 p0_13 → (∀ q : Nat, (q < p0 ∨ p0 + 8 ≤ q) → Ω_8 q = Ω q) → oW G A Ω_8 H → va_S A s.heap H locs → ∀ ls : Array Slot, lv_has ls 6 [(0, .ref p0), (3, .int x3_6), (4, .int x4_6)] → (f_X9_wouldTell_L36 p0_0 n_7 x3_6 x4_6 p0_2_6) = R → W p l e (headSpec (wz yX9_wouldTell cX9_wouldTell 6 (some .boolean)) ({ frames := 4, cells := 0, slots := 0, locals := 102 } : Room)).room s m ([.ref p0, .int x1, .int x2] : List Value).toArray below meth c H locs 0 0 (MQ below (va_Qi (fun (r : Int32) (Ω1 : Om) => r = R.1 ∧ (r = 0 ∨ r = 1) ∧ inMod G Ω1 p0 p0_0 p0_1 (R.2) p0_3 p0_4 p0_5 p0_6 p0_7 p0_8 p0_9 p0_10 p0_11 p0_12 p0_13 ∧ (∀ q : Nat, (q < p0 ∨ p0 + 8 ≤ q) → Ω1 q = Ω q)) (oB G A) A) ([.ref p0, .int x1, .int x2] : List Value).toArray s 0 0 A) (F0 m 36 ls []) := by
      intro n_7
      induction n_7 with
      | zero =>
        intro x3_6 x4_6 p0_2_6 Ω_8 H locs v_36_0 v_36_1 v_36_2 h_p0 hE hW hS ls hl hR
        exfalso
        omega
      | succ n_7 ih36 =>
        intro x3_6 x4_6 p0_2_6 Ω_8 H locs v_36_0 v_36_1 v_36_2 h_p0 hE hW hS ls hl hR
        rw [f_X9_wouldTell_L36] at hR
        refine lv_iload hx hb dX9_wouldTell_36 (lv_at hl 2 rfl) ?_
        refine lv_aload_n hx hb dX9_wouldTell_38 rfl (lv_at hl 0 rfl) ?_
        refine o_get hx hb hts hown hK hW (inMod_o h_p0) rfl ig9 2 (by decide) fl_X9_16 rfl dX9_wouldTell_39 ?_
        refine lv_bipush (v := (72 : Int32)) hx hb dX9_wouldTell_42 (by decide) ?_
        have j_9 : (72 : Int32).toInt = 72 := by decide
        refine o_iald hx hb hK hW (inMod_a2 h_p0) (vp_in_iff.mpr ⟨by omega, by omega⟩) dX9_wouldTell_44 ?_
        refine lv_icmp_ge (tgt := 138) hx hb dX9_wouldTell_45 (by decide) (fun c_10 => ?_) (fun c_10 => ?_)
        · rw [if_pos c_10] at hR
          have i_10 := rle c_10
          refine lv_iload_n hx hb dX9_wouldTell_138 rfl (lv_at hl 1 rfl) ?_
          subst hR
          exact W.zret (v := x3_6) hx hb hr (nb01 (by assumption)) (fun t ht hW9 => ⟨⟨x3_6, Ω_8, rfl, ⟨rfl, (by assumption), h_p0, hE⟩, by rw [oB, ht]; exact hW⟩, hS.F ht⟩) hS.2.2 dX9_wouldTell_139
        · rw [if_neg c_10] at hR
          have i_10 := rnle c_10
          refine lv_iload_n hx hb dX9_wouldTell_48 rfl (lv_at hl 1 rfl) ?_
          have j_12 : (0 : Int32).toInt = 0 := by decide
          refine lv_if_eq (tgt := 138) hx hb dX9_wouldTell_49 (by decide) (fun c_11 => ?_) (fun c_11 => ?_)
          · rw [if_pos c_11] at hR
            have i_11 := congrArg Int32.toInt c_11
            refine lv_iload_n hx hb dX9_wouldTell_138 rfl (lv_at hl 1 rfl) ?_
            subst hR
            exact W.zret (v := x3_6) hx hb hr (nb01 (by assumption)) (fun t ht hW9 => ⟨⟨x3_6, Ω_8, rfl, ⟨rfl, (by assumption), h_p0, hE⟩, by rw [oB, ht]; exact hW⟩, hS.F ht⟩) hS.2.2 dX9_wouldTell_139
          · rw [if_neg c_11] at hR
            have i_11 := rne c_11
            refine lv_bipush (v := (73 : Int32)) hx hb dX9_wouldTell_52 (by decide) ?_
            refine lv_iconst (v := (3 : Int32)) hx hb dX9_wouldTell_54 (by decide) ?_
            refine lv_iload hx hb dX9_wouldTell_55 (lv_at hl 2 rfl) ?_
            refine lv_imul hx hb dX9_wouldTell_57 ?_
            refine lv_iadd hx hb dX9_wouldTell_58 ?_
            refine lv_istore (lv' := [(5, .int ((73 : Int32) + ((3 : Int32) * x4_6))), (0, .ref p0), (3, .int x3_6), (4, .int x4_6)]) hx hb dX9_wouldTell_59 hl (by decide) rfl (fun ls hl => ?_)
            refine lv_aload_n hx hb dX9_wouldTell_61 rfl (lv_at hl 1 rfl) ?_
            refine o_get hx hb hts hown hK hW (inMod_o h_p0) rfl ig9 2 (by decide) fl_X9_16 rfl dX9_wouldTell_62 ?_
            refine lv_iload hx hb dX9_wouldTell_65 (lv_at hl 0 rfl) ?_
            refine lv_iconst (v := (1 : Int32)) hx hb dX9_wouldTell_67 (by decide) ?_
            refine lv_iadd hx hb dX9_wouldTell_68 ?_
            have j_13 : (73 : Int32).toInt = 73 := by decide
            have j_14 : (3 : Int32).toInt = 3 := by decide
            try have j_15 : ((3 : Int32) * x4_6).toInt = 3 * x4_6.toInt := rg_mul2 (by decide) (by omega) (by omega)
            try have j_16 : ((73 : Int32) + ((3 : Int32) * x4_6)).toInt = (73 : Int32).toInt + ((3 : Int32) * x4_6).toInt := fb_addI (by omega) (by omega)
            have j_17 : (1 : Int32).toInt = 1 := by decide
            try have j_18 : (((73 : Int32) + ((3 : Int32) * x4_6)) + (1 : Int32)).toInt = ((73 : Int32) + ((3 : Int32) * x4_6)).toInt + (1 : Int32).toInt := fb_addI (by omega) (by omega)
            refine o_iald hx hb hK hW (inMod_a2 h_p0) (vp_in_iff.mpr ⟨by omega, by omega⟩) dX9_wouldTell_69 ?_
            refine lv_iconst (v := (1 : Int32)) hx hb dX9_wouldTell_70 (by decide) ?_
            refine lv_icmp_ne (tgt := 100) hx hb dX9_wouldTell_71 (by decide) (fun c_19 => ?_) (fun c_19 => ?_)
            · rw [if_neg c_19] at hR
              have i_19 := rne c_19
              refine lv_aload_n hx hb dX9_wouldTell_100 rfl (lv_at hl 1 rfl) ?_
              refine lv_sipush (v := (135 : Int32)) hx hb dX9_wouldTell_101 (by decide) ?_
              refine lv_aload_n hx hb dX9_wouldTell_104 rfl (lv_at hl 1 rfl) ?_
              refine o_get hx hb hts hown hK hW (inMod_o h_p0) rfl ig9 2 (by decide) fl_X9_16 rfl dX9_wouldTell_105 ?_
              refine lv_iload hx hb dX9_wouldTell_108 (lv_at hl 0 rfl) ?_
              refine o_iald hx hb hK hW (inMod_a2 h_p0) (vp_in_iff.mpr ⟨by omega, by omega⟩) dX9_wouldTell_110 ?_
              refine o_Vi (rest := []) (As := [.int (135 : Int32), .int (p0_2_6 ((73 : Int32) + ((3 : Int32) * x4_6)).toNatClampNeg)]) (n := 2) hx hb hml hown hts hK hN hZ hW hS hA (c_X9_readOf l G A Ω_8 p0 p0_0 p0_1 p0_2_6 p0_3 p0_4 p0_5 p0_6 p0_7 p0_8 p0_9 p0_10 p0_11 p0_12 p0_13 (135 : Int32) (p0_2_6 ((73 : Int32) + ((3 : Int32) * x4_6)).toNatClampNeg) hM_p0 (by omega) h_p0) (inMod_o h_p0) rfl (good_V ml_X9_100 im_X9_readOf se_X9_readOf ini_X9 co_X9_readOf) (by decide +kernel) ⟨Nat.zero_le _, Nat.zero_le _⟩ hl.1 (Nat.le_of_ble_eq_true rfl) rfl rfl dX9_wouldTell_111 (fun r Ω_20 H locs hp hW hS => ?_)
              obtain ⟨rfl, h_p0, hF_20⟩ := hp
              have hE : ∀ q : Nat, (q < p0 ∨ p0 + 8 ≤ q) → Ω_20 q = Ω q := fun q g0 => (hF_20 q (by omega)).trans (hE q g0)
              have q72_20 : (((f_X9_readOf p0_0 p0_2_6 (135 : Int32) (p0_2_6 ((73 : Int32) + ((3 : Int32) * x4_6)).toNatClampNeg)).2) (72 : Int32).toNatClampNeg).toInt = (p0_2_6 (72 : Int32).toNatClampNeg).toInt := congrArg Int32.toInt (FR_readOf (j := 72) hM_p0 (by omega) (by omega))
              generalize (f_X9_readOf p0_0 p0_2_6 (135 : Int32) (p0_2_6 ((73 : Int32) + ((3 : Int32) * x4_6)).toNatClampNeg)) = Z_20 at h_p0 hR q72_20 ⊢
              obtain ⟨z20_0, z20_1⟩ := Z_20
              dsimp only at h_p0 hR q72_20 ⊢
              rw [f_X9_wouldTell_C114] at hR
              refine lv_aload_n hx hb dX9_wouldTell_114 rfl (lv_at hl 1 rfl) ?_
              refine o_get hx hb hts hown hK hW (inMod_o h_p0) rfl ig9 2 (by decide) fl_X9_16 rfl dX9_wouldTell_115 ?_
              refine lv_iload hx hb dX9_wouldTell_118 (lv_at hl 0 rfl) ?_
              refine lv_iconst (v := (2 : Int32)) hx hb dX9_wouldTell_120 (by decide) ?_
              refine lv_iadd hx hb dX9_wouldTell_121 ?_
              have j_21 : (2 : Int32).toInt = 2 := by decide
              try have j_22 : (((73 : Int32) + ((3 : Int32) * x4_6)) + (2 : Int32)).toInt = ((73 : Int32) + ((3 : Int32) * x4_6)).toInt + (2 : Int32).toInt := fb_addI (by omega) (by omega)
              refine o_iald hx hb hK hW (inMod_a2 h_p0) (vp_in_iff.mpr ⟨by omega, by omega⟩) dX9_wouldTell_122 ?_
              refine lv_icmp_ne (tgt := 130) hx hb dX9_wouldTell_123 (by decide) (fun c_23 => ?_) (fun c_23 => ?_)
              · rw [if_neg c_23] at hR
                have i_23 := rne c_23
                refine lv_iconst (v := (0 : Int32)) hx hb dX9_wouldTell_130 (by decide) ?_
                refine lv_istore_n (lv' := [(3, .int (0 : Int32)), (5, .int ((73 : Int32) + ((3 : Int32) * x4_6))), (0, .ref p0), (4, .int x4_6)]) hx hb dX9_wouldTell_131 rfl hl (by decide) rfl (fun ls hl => ?_)
                refine lv_iinc (v := (x4_6 + (1 : Int32))) (lv' := [(4, .int (x4_6 + (1 : Int32))), (3, .int (0 : Int32)), (5, .int ((73 : Int32) + ((3 : Int32) * x4_6))), (0, .ref p0)]) hx hb dX9_wouldTell_132 hl (k := 3) rfl rfl (by decide) rfl (fun ls hl => ?_)
                refine lv_goto (tgt := 36) hx hb dX9_wouldTell_135 (by decide) ?_
                try have j_24 : (x4_6 + (1 : Int32)).toInt = x4_6.toInt + (1 : Int32).toInt := fb_addI (by omega) (by omega)
                have q72 : 0 ≤ (z20_1 (72 : Int32).toNatClampNeg).toInt ∧ (z20_1 (72 : Int32).toNatClampNeg).toInt ≤ 20 := by first | omega | (repeat rw [upd_o (n72 (by first | omega | decide) (by first | omega | decide))]) <;> omega
                exact ih36 (0 : Int32) (x4_6 + (1 : Int32)) z20_1 Ω_20 H locs (by omega) (by omega) (by first | exact Or.inl rfl | exact Or.inr rfl | assumption) h_p0 hE hW hS ls (lv_sub hl [3, 1, 0] rfl) hR
              · rw [if_pos c_23] at hR
                have i_23 := congrArg Int32.toInt c_23
                refine lv_iconst (v := (1 : Int32)) hx hb dX9_wouldTell_126 (by decide) ?_
                refine lv_goto (tgt := 131) hx hb dX9_wouldTell_127 (by decide) ?_
                refine lv_istore_n (lv' := [(3, .int (1 : Int32)), (5, .int ((73 : Int32) + ((3 : Int32) * x4_6))), (0, .ref p0), (4, .int x4_6)]) hx hb dX9_wouldTell_131 rfl hl (by decide) rfl (fun ls hl => ?_)
                refine lv_iinc (v := (x4_6 + (1 : Int32))) (lv' := [(4, .int (x4_6 + (1 : Int32))), (3, .int (1 : Int32)), (5, .int ((73 : Int32) + ((3 : Int32) * x4_6))), (0, .ref p0)]) hx hb dX9_wouldTell_132 hl (k := 3) rfl rfl (by decide) rfl (fun ls hl => ?_)
                refine lv_goto (tgt := 36) hx hb dX9_wouldTell_135 (by decide) ?_
                try have j_25 : (x4_6 + (1 : Int32)).toInt = x4_6.toInt + (1 : Int32).toInt := fb_addI (by omega) (by omega)
                have q72 : 0 ≤ (z20_1 (72 : Int32).toNatClampNeg).toInt ∧ (z20_1 (72 : Int32).toNatClampNeg).toInt ≤ 20 := by first | omega | (repeat rw [upd_o (n72 (by first | omega | decide) (by first | omega | decide))]) <;> omega
                exact ih36 (1 : Int32) (x4_6 + (1 : Int32)) z20_1 Ω_20 H locs (by omega) (by omega) (by first | exact Or.inl rfl | exact Or.inr rfl | assumption) h_p0 hE hW hS ls (lv_sub hl [3, 1, 0] rfl) hR
            · rw [if_pos c_19] at hR
              have i_19 := congrArg Int32.toInt c_19
              refine lv_aload_n hx hb dX9_wouldTell_74 rfl (lv_at hl 1 rfl) ?_
              refine lv_sipush (v := (135 : Int32)) hx hb dX9_wouldTell_75 (by decide) ?_
              refine lv_aload_n hx hb dX9_wouldTell_78 rfl (lv_at hl 1 rfl) ?_
              refine o_get hx hb hts hown hK hW (inMod_o h_p0) rfl ig9 2 (by decide) fl_X9_16 rfl dX9_wouldTell_79 ?_
              refine lv_iload hx hb dX9_wouldTell_82 (lv_at hl 0 rfl) ?_
              refine o_iald hx hb hK hW (inMod_a2 h_p0) (vp_in_iff.mpr ⟨by omega, by omega⟩) dX9_wouldTell_84 ?_
              refine lv_aload_n hx hb dX9_wouldTell_85 rfl (lv_at hl 1 rfl) ?_
              refine o_get hx hb hts hown hK hW (inMod_o h_p0) rfl ig9 2 (by decide) fl_X9_16 rfl dX9_wouldTell_86 ?_
              refine lv_iload hx hb dX9_wouldTell_89 (lv_at hl 0 rfl) ?_
              refine lv_iconst (v := (2 : Int32)) hx hb dX9_wouldTell_91 (by decide) ?_
              refine lv_iadd hx hb dX9_wouldTell_92 ?_
              have j_26 : (2 : Int32).toInt = 2 := by decide
              try have j_27 : (((73 : Int32) + ((3 : Int32) * x4_6)) + (2 : Int32)).toInt = ((73 : Int32) + ((3 : Int32) * x4_6)).toInt + (2 : Int32).toInt := fb_addI (by omega) (by omega)
              refine o_iald hx hb hK hW (inMod_a2 h_p0) (vp_in_iff.mpr ⟨by omega, by omega⟩) dX9_wouldTell_93 ?_
              refine o_Vv (rest := []) (As := [.int (135 : Int32), .int (p0_2_6 ((73 : Int32) + ((3 : Int32) * x4_6)).toNatClampNeg), .int (p0_2_6 (((73 : Int32) + ((3 : Int32) * x4_6)) + (2 : Int32)).toNatClampNeg)]) (n := 3) hx hb hml hown hts hK hN hZ hW hS hA (c_X9_writeTo l G A Ω_8 p0 p0_0 p0_1 p0_2_6 p0_3 p0_4 p0_5 p0_6 p0_7 p0_8 p0_9 p0_10 p0_11 p0_12 p0_13 (135 : Int32) (p0_2_6 ((73 : Int32) + ((3 : Int32) * x4_6)).toNatClampNeg) (p0_2_6 (((73 : Int32) + ((3 : Int32) * x4_6)) + (2 : Int32)).toNatClampNeg) hM_p0 (by omega) h_p0) (inMod_o h_p0) rfl (good_V ml_X9_109 im_X9_writeTo se_X9_writeTo ini_X9 co_X9_writeTo) (by decide +kernel) ⟨Nat.zero_le _, Nat.zero_le _⟩ hl.1 (Nat.le_of_ble_eq_true rfl) rfl rfl dX9_wouldTell_94 (fun Ω_28 H locs hp hW hS => ?_)
              obtain ⟨h_p0, hF_28⟩ := hp
              have hE : ∀ q : Nat, (q < p0 ∨ p0 + 8 ≤ q) → Ω_28 q = Ω q := fun q g0 => (hF_28 q (by omega)).trans (hE q g0)
              have q72_28 : ((f_X9_writeTo p0_0 p0_2_6 (135 : Int32) (p0_2_6 ((73 : Int32) + ((3 : Int32) * x4_6)).toNatClampNeg) (p0_2_6 (((73 : Int32) + ((3 : Int32) * x4_6)) + (2 : Int32)).toNatClampNeg)) (72 : Int32).toNatClampNeg).toInt = (p0_2_6 (72 : Int32).toNatClampNeg).toInt := congrArg Int32.toInt (FR_writeTo (j := 72) hM_p0 (by omega) (by omega))
              refine lv_goto (tgt := 132) hx hb dX9_wouldTell_97 (by decide) ?_
              refine lv_iinc (v := (x4_6 + (1 : Int32))) (lv' := [(4, .int (x4_6 + (1 : Int32))), (5, .int ((73 : Int32) + ((3 : Int32) * x4_6))), (0, .ref p0), (3, .int x3_6)]) hx hb dX9_wouldTell_132 hl (k := 3) rfl rfl (by decide) rfl (fun ls hl => ?_)
              refine lv_goto (tgt := 36) hx hb dX9_wouldTell_135 (by decide) ?_
              try have j_29 : (x4_6 + (1 : Int32)).toInt = x4_6.toInt + (1 : Int32).toInt := fb_addI (by omega) (by omega)
              have q72 : 0 ≤ ((f_X9_writeTo p0_0 p0_2_6 (135 : Int32) (p0_2_6 ((73 : Int32) + ((3 : Int32) * x4_6)).toNatClampNeg) (p0_2_6 (((73 : Int32) + ((3 : Int32) * x4_6)) + (2 : Int32)).toNatClampNeg)) (72 : Int32).toNatClampNeg).toInt ∧ ((f_X9_writeTo p0_0 p0_2_6 (135 : Int32) (p0_2_6 ((73 : Int32) + ((3 : Int32) * x4_6)).toNatClampNeg) (p0_2_6 (((73 : Int32) + ((3 : Int32) * x4_6)) + (2 : Int32)).toNatClampNeg)) (72 : Int32).toNatClampNeg).toInt ≤ 20 := by first | omega | (repeat rw [upd_o (n72 (by first | omega | decide) (by first | omega | decide))]) <;> omega
              exact ih36 x3_6 (x4_6 + (1 : Int32)) (f_X9_writeTo p0_0 p0_2_6 (135 : Int32) (p0_2_6 ((73 : Int32) + ((3 : Int32) * x4_6)).toNatClampNeg) (p0_2_6 (((73 : Int32) + ((3 : Int32) * x4_6)) + (2 : Int32)).toNatClampNeg)) Ω_28 H locs (by omega) (by omega) (by first | exact Or.inl rfl | exact Or.inr rfl | assumption) h_p0 hE hW hS ls (lv_sub hl [2, 3, 0] rfl) hR
    have j_30 : (1 : Int32).toInt = 1 := by decide
    have j_31 : (0 : Int32).toInt = 0 := by decide
    have q72 : 0 ≤ ((f_X9_reset p0_0 p0_2_3 (135 : Int32)) (72 : Int32).toNatClampNeg).toInt ∧ ((f_X9_reset p0_0 p0_2_3 (135 : Int32)) (72 : Int32).toNatClampNeg).toInt ≤ 20 := by first | omega | (repeat rw [upd_o (n72 (by first | omega | decide) (by first | omega | decide))]) <;> omega
    exact L36 4000 (1 : Int32) (0 : Int32) (f_X9_reset p0_0 p0_2_3 (135 : Int32)) Ω_5 H locs (by omega) (by omega) (by first | exact Or.inl rfl | exact Or.inr rfl | assumption) h_p0 hE hW hS ls (lv_sub hl [2, 1, 0] rfl) hR
  have j_33 : (-9 : Int32).toInt = -9 := by decide
  refine lv_icmp_eq (tgt := 24) hx hb dX9_wouldTell_10 (by decide) (fun c_32 => ?_) (fun c_32 => ?_)
  · rw [if_pos c_32] at hR
    have i_32 := congrArg Int32.toInt c_32
    have q72 : 0 ≤ ((f_X9_repair p0_0 p0_2 (135 : Int32)) (72 : Int32).toNatClampNeg).toInt ∧ ((f_X9_repair p0_0 p0_2 (135 : Int32)) (72 : Int32).toNatClampNeg).toInt ≤ 20 := by first | omega | (repeat rw [upd_o (n72 (by first | omega | decide) (by first | omega | decide))]) <;> omega
    exact J24 (f_X9_repair p0_0 p0_2 (135 : Int32)) Ω_2 H locs (by omega) h_p0 hE hW hS ls (lv_sub hl [0] rfl) hR
  · rw [if_neg c_32] at hR
    have i_32 := rne c_32
    refine lv_aload_n hx hb dX9_wouldTell_13 rfl (lv_at hl 0 rfl) ?_
    refine o_get hx hb hts hown hK hW (inMod_o h_p0) rfl ig9 2 (by decide) fl_X9_16 rfl dX9_wouldTell_14 ?_
    refine lv_sipush (v := (147 : Int32)) hx hb dX9_wouldTell_17 (by decide) ?_
    refine lv_iload_n hx hb dX9_wouldTell_20 rfl (lv_at hl 1 rfl) ?_
    refine lv_iadd hx hb dX9_wouldTell_21 ?_
    refine lv_iload_n hx hb dX9_wouldTell_22 rfl (lv_at hl 2 rfl) ?_
    have j_34 : (147 : Int32).toInt = 147 := by decide
    try have j_35 : ((147 : Int32) + x1).toInt = (147 : Int32).toInt + x1.toInt := fb_addI (by omega) (by omega)
    refine wMod_2 hx hb hK hW hS hA h_p0 (vp_in_iff.mpr ⟨by omega, by omega⟩) dX9_wouldTell_23 (fun Ω_36 H locs h_p0 hF_36 hW hS => ?_)
    have hE : ∀ q : Nat, (q < p0 ∨ p0 + 8 ≤ q) → Ω_36 q = Ω q := fun q g0 => (hF_36 q (by omega)).trans (hE q g0)
    have q72 : 0 ≤ ((upd (f_X9_repair p0_0 p0_2 (135 : Int32)) ((147 : Int32) + x1).toNatClampNeg x2) (72 : Int32).toNatClampNeg).toInt ∧ ((upd (f_X9_repair p0_0 p0_2 (135 : Int32)) ((147 : Int32) + x1).toNatClampNeg x2) (72 : Int32).toNatClampNeg).toInt ≤ 20 := by first | omega | (repeat rw [upd_o (n72 (by first | omega | decide) (by first | omega | decide))]) <;> omega
    exact J24 (upd (f_X9_repair p0_0 p0_2 (135 : Int32)) ((147 : Int32) + x1).toNatClampNeg x2) Ω_36 H locs (by omega) h_p0 hE hW hS ls (lv_sub hl [0] rfl) hR
set_option maxHeartbeats 4000000 in
set_option maxRecDepth 100000 in
theorem c_X9_suspects (l : Launch) (G : Gm) (A : Nat → Prop) (Ω : Om) (p0 : Nat) (p0_0 : Fn) (p0_1 : Fn) (p0_2 : Fn) (p0_3 : Fn) (p0_4 : Int32) (p0_5 : Fn) (p0_6 : Fn) (p0_7 : Fn) (p0_8 : Int32) (p0_9 : Int32) (p0_10 : Int32) (p0_11 : Int32) (p0_12 : Int32) (p0_13 : Int32) (x1 : Int32) (hM_p0 : ToldInv p0_0) (hn : 0 ≤ (p0_2 (72 : Int32).toNatClampNeg).toInt ∧ (p0_2 (72 : Int32).toNatClampNeg).toInt ≤ 20) (h_p0 : inMod G Ω p0 p0_0 p0_1 p0_2 p0_3 p0_4 p0_5 p0_6 p0_7 p0_8 p0_9 p0_10 p0_11 p0_12 p0_13) : Met l yX9_suspects (wz yX9_suspects cX9_suspects 5 (some .int)) ({ frames := 5, cells := 0, slots := 0, locals := 127 } : Room) (va_Pc [.ref p0, .int x1] (oS G A Ω)) (va_Qi (fun (r : Int32) (Ω1 : Om) => r = (f_X9_suspects p0_0 p0_2 x1).1 ∧ inMod G Ω1 p0 p0_0 p0_1 ((f_X9_suspects p0_0 p0_2 x1).2) p0_3 p0_4 p0_5 p0_6 p0_7 p0_8 p0_9 p0_10 p0_11 p0_12 p0_13 ∧ (∀ q : Nat, (q < p0 ∨ p0 + 8 ≤ q) → Ω1 q = Ω q)) (oB G A) A) 0 0 A := by
  refine Met.ofW (cc := cX9_suspects) (maxL := 5) (ret := (some .int)) (by decide) rfl ?_
  intro p e s m args below meth c s₁ B hml hv
  obtain ⟨rfl, hW, hK, hN, hZ⟩ := hv
  have hx := B.exec
  have hb := B.bytes
  have hr := B.returns
  have hts : ∀ w ∈ gt, w.before _ s = true := fun w hw => atoms_spec (ws := wz yX9_suspects cX9_suspects 5 (some .int)) B.pre w (List.mem_cons_of_mem _ hw)
  have hown : s.vm.findClass RX9 = some m.cls := findClass_of_methodNamed B.named
  have hlocks := B.notSynchronized
  have hA : ∀ q, A q → A q := fun _ h => h
  have hS : va_S A s.heap s.heap [] := va_S.rf
  have hS0 := hS
  have hl := lv_entry ([.ref p0, .int x1]) (n := 5) (Nat.le_of_ble_eq_true rfl)
  rw [lg_entry_eq]
  generalize (lg_sl ([.ref p0, .int x1]) ++ List.replicate (5 - (lg_sl ([.ref p0, .int x1])).length) Slot.unset).toArray = ls at hl ⊢
  have hl : lv_has ls 5 [(0, .ref p0), (1, .int x1)] := hl
  have hE : ∀ q : Nat, (q < p0 ∨ p0 + 8 ≤ q) → Ω q = Ω q := by intros; rfl
  generalize hR : (f_X9_suspects p0_0 p0_2 x1) = R
  rw [f_X9_suspects] at hR
  refine lv_iload_n hx hb dX9_suspects_0 rfl (lv_at hl 1 rfl) ?_
  refine lv_iconst (v := (0 : Int32)) hx hb dX9_suspects_1 (by decide) ?_
  refine lv_iconst (v := (2 : Int32)) hx hb dX9_suspects_2 (by decide) ?_
  have j_1 : (0 : Int32).toInt = 0 := by decide
  have j_2 : (2 : Int32).toInt = 2 := by decide
  refine o_SiR (rest := []) (As := [.int x1, .int (0 : Int32), .int (2 : Int32)]) (n := 3) hx hb hml hown hts hK hN hZ hW hS hA (c_X9_in l G A Ω x1 (0 : Int32) (2 : Int32)) ml_X9_39 st_X9_in ini_X9 co_X9_in (by decide +kernel) ⟨Nat.zero_le _, Nat.zero_le _⟩ hl.1 (Nat.le_of_ble_eq_true rfl) rfl rfl dX9_suspects_3 (fun r H locs hp hW hS => ?_)
  obtain ⟨rfl, hz_3⟩ := hp
  refine lv_if_ne (tgt := 11) hx hb dX9_suspects_6 (by decide) (fun c_4 => ?_) (fun c_4 => ?_)
  · rw [if_neg c_4] at hR
    have i_4 := rne c_4
    have b_c_4 := rIN c_4
    refine lv_iload_n hx hb dX9_suspects_11 rfl (lv_at hl 1 rfl) ?_
    refine lv_iconst (v := (2 : Int32)) hx hb dX9_suspects_12 (by decide) ?_
    refine lv_icmp_ne (tgt := 32) hx hb dX9_suspects_13 (by decide) (fun c_5 => ?_) (fun c_5 => ?_)
    · rw [if_neg c_5] at hR
      have i_5 := rne c_5
      refine lv_iconst (v := (0 : Int32)) hx hb dX9_suspects_32 (by decide) ?_
      refine lv_istore_n (lv' := [(2, .int (0 : Int32)), (0, .ref p0), (1, .int x1)]) hx hb dX9_suspects_33 rfl hl (by decide) rfl (fun ls hl => ?_)
      refine lv_bipush (v := (-9 : Int32)) hx hb dX9_suspects_34 (by decide) ?_
      refine lv_istore_n (lv' := [(3, .int (-9 : Int32)), (2, .int (0 : Int32)), (0, .ref p0), (1, .int x1)]) hx hb dX9_suspects_36 rfl hl (by decide) rfl (fun ls hl => ?_)
      refine lv_iconst (v := (0 : Int32)) hx hb dX9_suspects_37 (by decide) ?_
      refine lv_istore (lv' := [(4, .int (0 : Int32)), (3, .int (-9 : Int32)), (2, .int (0 : Int32)), (0, .ref p0), (1, .int x1)]) hx hb dX9_suspects_38 hl (by decide) rfl (fun ls hl => ?_)
      have L40 : ∀ (n_7 : Nat) (x2_6 : Int32) (x3_6 : Int32) (x4_6 : Int32) (p0_2_6 : Fn) (Ω_8 : Om) (H : Heap) (locs : List Loc), (0 ≤ x4_6.toInt ∧ x4_6.toInt ≤ 96 ∧ 96 - x4_6.toInt < n_7) → (0 ≤ (p0_2_6 (72 : Int32).toNatClampNeg).toInt ∧ (p0_2_6 (72 : Int32).toNatClampNeg).toInt ≤ 20) → inMod G Ω_8 p0 p0_0 p0_1 p0_2_6 p0_3 p0_4 p0_5 p0_6 p0_7 p0_8 p0_9 p0_10 p0_11 p0_12 p0_13 → (∀ q : Nat, (q < p0 ∨ p0 + 8 ≤ q) → Ω_8 q = Ω q) → oW G A Ω_8 H → va_S A s.heap H locs → ∀ ls : Array Slot, lv_has ls 5 [(0, .ref p0), (1, .int x1), (2, .int x2_6), (3, .int x3_6), (4, .int x4_6)] → (f_X9_suspects_L40 p0_0 x1 n_7 x2_6 x3_6 x4_6 p0_2_6) = R → W p l e (headSpec (wz yX9_suspects cX9_suspects 5 (some .int)) ({ frames := 5, cells := 0, slots := 0, locals := 127 } : Room)).room s m ([.ref p0, .int x1] : List Value).toArray below meth c H locs 0 0 (MQ below (va_Qi (fun (r : Int32) (Ω1 : Om) => r = R.1 ∧ inMod G Ω1 p0 p0_0 p0_1 (R.2) p0_3 p0_4 p0_5 p0_6 p0_7 p0_8 p0_9 p0_10 p0_11 p0_12 p0_13 ∧ (∀ q : Nat, (q < p0 ∨ p0 + 8 ≤ q) → Ω1 q = Ω q)) (oB G A) A) ([.ref p0, .int x1] : List Value).toArray s 0 0 A) (F0 m 40 ls []) := by
        intro n_7
        induction n_7 with
        | zero =>
          intro x2_6 x3_6 x4_6 p0_2_6 Ω_8 H locs v_40_0 v_40_1 h_p0 hE hW hS ls hl hR
          exfalso
          omega
        | succ n_7 ih40 =>
          intro x2_6 x3_6 x4_6 p0_2_6 Ω_8 H locs v_40_0 v_40_1 h_p0 hE hW hS ls hl hR
          rw [f_X9_suspects_L40] at hR
          refine lv_iload hx hb dX9_suspects_40 (lv_at hl 4 rfl) ?_
          refine lv_bipush (v := (8 : Int32)) hx hb dX9_suspects_42 (by decide) ?_
          refine lv_aload_n hx hb dX9_suspects_44 rfl (lv_at hl 0 rfl) ?_
          refine o_ViR (rest := [.int (8 : Int32), .int x4_6]) (As := []) (n := 0) hx hb hml hown hts hK hN hZ hW hS hA (c_X9_fields l G A Ω_8 p0 p0_0 p0_1 p0_2_6 p0_3 p0_4 p0_5 p0_6 p0_7 p0_8 p0_9 p0_10 p0_11 p0_12 p0_13 hM_p0 h_p0) (inMod_o h_p0) rfl (good_V ml_X9_35 im_X9_fields se_X9_fields ini_X9 co_X9_fields) (by decide +kernel) ⟨Nat.zero_le _, Nat.zero_le _⟩ hl.1 (Nat.le_of_ble_eq_true rfl) rfl rfl dX9_suspects_45 (fun r H locs hp hW hS => ?_)
          subst hp
          refine lv_imul hx hb dX9_suspects_48 ?_
          have j_11 : (8 : Int32).toInt = 8 := by decide
          try have j_12 : 0 ≤ (f_X9_fields p0_0).toInt ∧ (f_X9_fields p0_0).toInt ≤ 12 := TI_91 hM_p0
          try have j_13 : ((8 : Int32) * (f_X9_fields p0_0)).toInt = 8 * (f_X9_fields p0_0).toInt := rg_mul2 (by decide) (by omega) (by omega)
          refine lv_icmp_ge (tgt := 110) hx hb dX9_suspects_49 (by decide) (fun c_10 => ?_) (fun c_10 => ?_)
          · rw [if_pos c_10] at hR
            have i_10 := rle c_10
            refine lv_iload_n hx hb dX9_suspects_110 rfl (lv_at hl 1 rfl) ?_
            refine lv_if_ne (tgt := 118) hx hb dX9_suspects_111 (by decide) (fun c_14 => ?_) (fun c_14 => ?_)
            · rw [if_neg c_14] at hR
              have i_14 := rne c_14
              refine lv_iload_n hx hb dX9_suspects_118 rfl (lv_at hl 3 rfl) ?_
              subst hR
              exact W.iret (v := x3_6) hx hb hr (fun t ht hW9 => ⟨⟨x3_6, Ω_8, rfl, ⟨rfl, h_p0, hE⟩, by rw [oB, ht]; exact hW⟩, hS.F ht⟩) hS.2.2 dX9_suspects_119
            · rw [if_pos c_14] at hR
              have i_14 := congrArg Int32.toInt c_14
              refine lv_iload_n hx hb dX9_suspects_114 rfl (lv_at hl 2 rfl) ?_
              refine lv_goto (tgt := 119) hx hb dX9_suspects_115 (by decide) ?_
              subst hR
              exact W.iret (v := x2_6) hx hb hr (fun t ht hW9 => ⟨⟨x2_6, Ω_8, rfl, ⟨rfl, h_p0, hE⟩, by rw [oB, ht]; exact hW⟩, hS.F ht⟩) hS.2.2 dX9_suspects_119
          · rw [if_neg c_10] at hR
            have i_10 := rnle c_10
            refine lv_iload hx hb dX9_suspects_52 (lv_at hl 4 rfl) ?_
            refine lv_bipush (v := (8 : Int32)) hx hb dX9_suspects_54 (by decide) ?_
            refine lv_irem hx hb dX9_suspects_56 (by decide) ?_
            refine lv_aload_n hx hb dX9_suspects_57 rfl (lv_at hl 0 rfl) ?_
            refine o_get hx hb hts hown hK hW (inMod_o h_p0) rfl ig9 0 (by decide) fl_X9_7 rfl dX9_suspects_58 ?_
            refine lv_bipush (v := (54 : Int32)) hx hb dX9_suspects_61 (by decide) ?_
            refine lv_iload hx hb dX9_suspects_63 (lv_at hl 4 rfl) ?_
            refine lv_bipush (v := (8 : Int32)) hx hb dX9_suspects_65 (by decide) ?_
            refine lv_idiv hx hb dX9_suspects_67 (by decide) ?_
            refine lv_iadd hx hb dX9_suspects_68 ?_
            have j_15 : (54 : Int32).toInt = 54 := by decide
            try have j_16 : (x4_6 / (8 : Int32)).toInt = x4_6.toInt / 8 := rg_div (by decide) (by omega) (by decide)
            try have j_17 : ((54 : Int32) + (x4_6 / (8 : Int32))).toInt = (54 : Int32).toInt + (x4_6 / (8 : Int32)).toInt := fb_addI (by omega) (by omega)
            refine o_iald hx hb hK hW (inMod_a0 h_p0) (vp_in_iff.mpr ⟨by omega, by omega⟩) dX9_suspects_69 ?_
            try have j_19 : (x4_6 - x4_6 / (8 : Int32) * (8 : Int32)).toInt = x4_6.toInt - x4_6.toInt / 8 * 8 := rg_rem (by decide) (by omega) (by decide)
            refine lv_icmp_eq (tgt := 104) hx hb dX9_suspects_70 (by decide) (fun c_18 => ?_) (fun c_18 => ?_)
            · rw [if_pos c_18] at hR
              have i_18 := congrArg Int32.toInt c_18
              refine lv_iinc (v := (x4_6 + (1 : Int32))) (lv' := [(4, .int (x4_6 + (1 : Int32))), (0, .ref p0), (1, .int x1), (2, .int x2_6), (3, .int x3_6)]) hx hb dX9_suspects_104 hl (k := 4) rfl rfl (by decide) rfl (fun ls hl => ?_)
              refine lv_goto (tgt := 40) hx hb dX9_suspects_107 (by decide) ?_
              have j_20 : (1 : Int32).toInt = 1 := by decide
              try have j_21 : (x4_6 + (1 : Int32)).toInt = x4_6.toInt + (1 : Int32).toInt := fb_addI (by omega) (by omega)
              have q72 : 0 ≤ (p0_2_6 (72 : Int32).toNatClampNeg).toInt ∧ (p0_2_6 (72 : Int32).toNatClampNeg).toInt ≤ 20 := by first | omega | (repeat rw [upd_o (n72 (by first | omega | decide) (by first | omega | decide))]) <;> omega
              exact ih40 x2_6 x3_6 (x4_6 + (1 : Int32)) p0_2_6 Ω_8 H locs (by omega) (by omega) h_p0 hE hW hS ls (lv_sub hl [1, 2, 3, 4, 0] rfl) hR
            · rw [if_neg c_18] at hR
              have i_18 := rne c_18
              refine lv_aload_n hx hb dX9_suspects_73 rfl (lv_at hl 0 rfl) ?_
              refine lv_iload hx hb dX9_suspects_74 (lv_at hl 4 rfl) ?_
              refine lv_bipush (v := (8 : Int32)) hx hb dX9_suspects_76 (by decide) ?_
              refine lv_idiv hx hb dX9_suspects_78 (by decide) ?_
              refine lv_iload hx hb dX9_suspects_79 (lv_at hl 4 rfl) ?_
              refine lv_bipush (v := (8 : Int32)) hx hb dX9_suspects_81 (by decide) ?_
              refine lv_irem hx hb dX9_suspects_83 (by decide) ?_
              refine o_Vi (rest := []) (As := [.int (x4_6 / (8 : Int32)), .int (x4_6 - x4_6 / (8 : Int32) * (8 : Int32))]) (n := 2) hx hb hml hown hts hK hN hZ hW hS hA (c_X9_wouldTell l G A Ω_8 p0 p0_0 p0_1 p0_2_6 p0_3 p0_4 p0_5 p0_6 p0_7 p0_8 p0_9 p0_10 p0_11 p0_12 p0_13 (x4_6 / (8 : Int32)) (x4_6 - x4_6 / (8 : Int32) * (8 : Int32)) hM_p0 (by omega) (by omega) h_p0) (inMod_o h_p0) rfl (good_V ml_X9_122 im_X9_wouldTell se_X9_wouldTell ini_X9 co_X9_wouldTell) (by decide +kernel) ⟨Nat.zero_le _, Nat.zero_le _⟩ hl.1 (Nat.le_of_ble_eq_true rfl) rfl rfl dX9_suspects_84 (fun r Ω_22 H locs hp hW hS => ?_)
              obtain ⟨rfl, hz_22, h_p0, hF_22⟩ := hp
              have hE : ∀ q : Nat, (q < p0 ∨ p0 + 8 ≤ q) → Ω_22 q = Ω q := fun q g0 => (hF_22 q (by omega)).trans (hE q g0)
              have q72_22 : (((f_X9_wouldTell p0_0 p0_2_6 (x4_6 / (8 : Int32)) (x4_6 - x4_6 / (8 : Int32) * (8 : Int32))).2) (72 : Int32).toNatClampNeg).toInt = (p0_2_6 (72 : Int32).toNatClampNeg).toInt := congrArg Int32.toInt (FR_wouldTell (j := 72) hM_p0 (by omega) (by omega))
              generalize (f_X9_wouldTell p0_0 p0_2_6 (x4_6 / (8 : Int32)) (x4_6 - x4_6 / (8 : Int32) * (8 : Int32))) = Z_22 at h_p0 hR q72_22 hz_22 ⊢
              obtain ⟨z22_0, z22_1⟩ := Z_22
              dsimp only at h_p0 hR q72_22 hz_22 ⊢
              rw [f_X9_suspects_C87] at hR
              refine lv_if_eq (tgt := 104) hx hb dX9_suspects_87 (by decide) (fun c_23 => ?_) (fun c_23 => ?_)
              · rw [if_pos c_23] at hR
                have i_23 := congrArg Int32.toInt c_23
                refine lv_iinc (v := (x4_6 + (1 : Int32))) (lv' := [(4, .int (x4_6 + (1 : Int32))), (0, .ref p0), (1, .int x1), (2, .int x2_6), (3, .int x3_6)]) hx hb dX9_suspects_104 hl (k := 4) rfl rfl (by decide) rfl (fun ls hl => ?_)
                refine lv_goto (tgt := 40) hx hb dX9_suspects_107 (by decide) ?_
                have j_24 : (1 : Int32).toInt = 1 := by decide
                try have j_25 : (x4_6 + (1 : Int32)).toInt = x4_6.toInt + (1 : Int32).toInt := fb_addI (by omega) (by omega)
                have q72 : 0 ≤ (z22_1 (72 : Int32).toNatClampNeg).toInt ∧ (z22_1 (72 : Int32).toNatClampNeg).toInt ≤ 20 := by first | omega | (repeat rw [upd_o (n72 (by first | omega | decide) (by first | omega | decide))]) <;> omega
                exact ih40 x2_6 x3_6 (x4_6 + (1 : Int32)) z22_1 Ω_22 H locs (by omega) (by omega) h_p0 hE hW hS ls (lv_sub hl [1, 2, 3, 4, 0] rfl) hR
              · rw [if_neg c_23] at hR
                have i_23 := rne c_23
                refine lv_iload_n hx hb dX9_suspects_90 rfl (lv_at hl 2 rfl) ?_
                refine lv_if_ne (tgt := 99) hx hb dX9_suspects_91 (by decide) (fun c_26 => ?_) (fun c_26 => ?_)
                · rw [if_neg c_26] at hR
                  have i_26 := rne c_26
                  refine lv_iload_n hx hb dX9_suspects_99 rfl (lv_at hl 3 rfl) ?_
                  refine lv_istore_n (lv' := [(3, .int x3_6), (0, .ref p0), (1, .int x1), (2, .int x2_6), (4, .int x4_6)]) hx hb dX9_suspects_100 rfl hl (by decide) rfl (fun ls hl => ?_)
                  refine lv_iinc (v := (x2_6 + (1 : Int32))) (lv' := [(2, .int (x2_6 + (1 : Int32))), (3, .int x3_6), (0, .ref p0), (1, .int x1), (4, .int x4_6)]) hx hb dX9_suspects_101 hl (k := 3) rfl rfl (by decide) rfl (fun ls hl => ?_)
                  refine lv_iinc (v := (x4_6 + (1 : Int32))) (lv' := [(4, .int (x4_6 + (1 : Int32))), (2, .int (x2_6 + (1 : Int32))), (3, .int x3_6), (0, .ref p0), (1, .int x1)]) hx hb dX9_suspects_104 hl (k := 4) rfl rfl (by decide) rfl (fun ls hl => ?_)
                  refine lv_goto (tgt := 40) hx hb dX9_suspects_107 (by decide) ?_
                  have j_27 : (1 : Int32).toInt = 1 := by decide
                  try have j_28 : (x2_6 + (1 : Int32)).toInt = x2_6.toInt + (1 : Int32).toInt := fb_addI (by omega) (by omega)
                  try have j_29 : (x4_6 + (1 : Int32)).toInt = x4_6.toInt + (1 : Int32).toInt := fb_addI (by omega) (by omega)
                  have q72 : 0 ≤ (z22_1 (72 : Int32).toNatClampNeg).toInt ∧ (z22_1 (72 : Int32).toNatClampNeg).toInt ≤ 20 := by first | omega | (repeat rw [upd_o (n72 (by first | omega | decide) (by first | omega | decide))]) <;> omega
                  exact ih40 (x2_6 + (1 : Int32)) x3_6 (x4_6 + (1 : Int32)) z22_1 Ω_22 H locs (by omega) (by omega) h_p0 hE hW hS ls (lv_sub hl [3, 4, 1, 2, 0] rfl) hR
                · rw [if_pos c_26] at hR
                  have i_26 := congrArg Int32.toInt c_26
                  refine lv_iload hx hb dX9_suspects_94 (lv_at hl 4 rfl) ?_
                  refine lv_goto (tgt := 100) hx hb dX9_suspects_96 (by decide) ?_
                  refine lv_istore_n (lv' := [(3, .int x4_6), (0, .ref p0), (1, .int x1), (2, .int x2_6), (4, .int x4_6)]) hx hb dX9_suspects_100 rfl hl (by decide) rfl (fun ls hl => ?_)
                  refine lv_iinc (v := (x2_6 + (1 : Int32))) (lv' := [(2, .int (x2_6 + (1 : Int32))), (3, .int x4_6), (0, .ref p0), (1, .int x1), (4, .int x4_6)]) hx hb dX9_suspects_101 hl (k := 3) rfl rfl (by decide) rfl (fun ls hl => ?_)
                  refine lv_iinc (v := (x4_6 + (1 : Int32))) (lv' := [(4, .int (x4_6 + (1 : Int32))), (2, .int (x2_6 + (1 : Int32))), (3, .int x4_6), (0, .ref p0), (1, .int x1)]) hx hb dX9_suspects_104 hl (k := 4) rfl rfl (by decide) rfl (fun ls hl => ?_)
                  refine lv_goto (tgt := 40) hx hb dX9_suspects_107 (by decide) ?_
                  have j_30 : (1 : Int32).toInt = 1 := by decide
                  try have j_31 : (x2_6 + (1 : Int32)).toInt = x2_6.toInt + (1 : Int32).toInt := fb_addI (by omega) (by omega)
                  try have j_32 : (x4_6 + (1 : Int32)).toInt = x4_6.toInt + (1 : Int32).toInt := fb_addI (by omega) (by omega)
                  have q72 : 0 ≤ (z22_1 (72 : Int32).toNatClampNeg).toInt ∧ (z22_1 (72 : Int32).toNatClampNeg).toInt ≤ 20 := by first | omega | (repeat rw [upd_o (n72 (by first | omega | decide) (by first | omega | decide))]) <;> omega
                  exact ih40 (x2_6 + (1 : Int32)) x4_6 (x4_6 + (1 : Int32)) z22_1 Ω_22 H locs (by omega) (by omega) h_p0 hE hW hS ls (lv_sub hl [3, 4, 1, 2, 0] rfl) hR
      have j_33 : (-9 : Int32).toInt = -9 := by decide
      have q72 : 0 ≤ (p0_2 (72 : Int32).toNatClampNeg).toInt ∧ (p0_2 (72 : Int32).toNatClampNeg).toInt ≤ 20 := by first | omega | (repeat rw [upd_o (n72 (by first | omega | decide) (by first | omega | decide))]) <;> omega
      exact L40 4000 (0 : Int32) (-9 : Int32) (0 : Int32) p0_2 Ω H locs (by omega) (by omega) h_p0 hE hW hS ls (lv_sub hl [3, 4, 2, 1, 0] rfl) hR
    · rw [if_pos c_5] at hR
      have i_5 := congrArg Int32.toInt c_5
      refine lv_aload_n hx hb dX9_suspects_16 rfl (lv_at hl 0 rfl) ?_
      refine lv_bipush (v := (-9 : Int32)) hx hb dX9_suspects_17 (by decide) ?_
      refine lv_iconst (v := (0 : Int32)) hx hb dX9_suspects_19 (by decide) ?_
      have j_34 : (-9 : Int32).toInt = -9 := by decide
      refine o_Vi (rest := []) (As := [.int (-9 : Int32), .int (0 : Int32)]) (n := 2) hx hb hml hown hts hK hN hZ hW hS hA (c_X9_wouldTell l G A Ω p0 p0_0 p0_1 p0_2 p0_3 p0_4 p0_5 p0_6 p0_7 p0_8 p0_9 p0_10 p0_11 p0_12 p0_13 (-9 : Int32) (0 : Int32) hM_p0 (by omega) (by omega) h_p0) (inMod_o h_p0) rfl (good_V ml_X9_122 im_X9_wouldTell se_X9_wouldTell ini_X9 co_X9_wouldTell) (by decide +kernel) ⟨Nat.zero_le _, Nat.zero_le _⟩ hl.1 (Nat.le_of_ble_eq_true rfl) rfl rfl dX9_suspects_20 (fun r Ω_35 H locs hp hW hS => ?_)
      obtain ⟨rfl, hz_35, h_p0, hF_35⟩ := hp
      have hE : ∀ q : Nat, (q < p0 ∨ p0 + 8 ≤ q) → Ω_35 q = Ω q := fun q g0 => (hF_35 q (by omega)).trans (hE q g0)
      have q72_35 : (((f_X9_wouldTell p0_0 p0_2 (-9 : Int32) (0 : Int32)).2) (72 : Int32).toNatClampNeg).toInt = (p0_2 (72 : Int32).toNatClampNeg).toInt := congrArg Int32.toInt (FR_wouldTell (j := 72) hM_p0 (by omega) (by omega))
      generalize (f_X9_wouldTell p0_0 p0_2 (-9 : Int32) (0 : Int32)) = Z_35 at h_p0 hR q72_35 hz_35 ⊢
      obtain ⟨z35_0, z35_1⟩ := Z_35
      dsimp only at h_p0 hR q72_35 hz_35 ⊢
      rw [f_X9_suspects_C23] at hR
      refine lv_if_eq (tgt := 30) hx hb dX9_suspects_23 (by decide) (fun c_36 => ?_) (fun c_36 => ?_)
      · rw [if_pos c_36] at hR
        have i_36 := congrArg Int32.toInt c_36
        refine lv_iconst (v := (0 : Int32)) hx hb dX9_suspects_30 (by decide) ?_
        subst hR
        exact W.iret (v := (0 : Int32)) hx hb hr (fun t ht hW9 => ⟨⟨(0 : Int32), Ω_35, rfl, ⟨rfl, h_p0, hE⟩, by rw [oB, ht]; exact hW⟩, hS.F ht⟩) hS.2.2 dX9_suspects_31
      · rw [if_neg c_36] at hR
        have i_36 := rne c_36
        refine lv_iconst (v := (1 : Int32)) hx hb dX9_suspects_26 (by decide) ?_
        refine lv_goto (tgt := 31) hx hb dX9_suspects_27 (by decide) ?_
        subst hR
        exact W.iret (v := (1 : Int32)) hx hb hr (fun t ht hW9 => ⟨⟨(1 : Int32), Ω_35, rfl, ⟨rfl, h_p0, hE⟩, by rw [oB, ht]; exact hW⟩, hS.F ht⟩) hS.2.2 dX9_suspects_31
  · rw [if_pos c_4] at hR
    have i_4 := congrArg Int32.toInt c_4
    refine lv_iconst (v := (-1 : Int32)) hx hb dX9_suspects_9 (by decide) ?_
    subst hR
    exact W.iret (v := (-1 : Int32)) hx hb hr (fun t ht hW9 => ⟨⟨(-1 : Int32), Ω, rfl, ⟨rfl, h_p0, hE⟩, by rw [oB, ht]; exact hW⟩, hS.F ht⟩) hS.2.2 dX9_suspects_10
set_option maxHeartbeats 4000000 in
set_option maxRecDepth 100000 in
theorem c_X9_clashes (l : Launch) (G : Gm) (A : Nat → Prop) (Ω : Om) (p0 : Nat) (p0_0 : Fn) (p0_1 : Fn) (p0_2 : Fn) (p0_3 : Fn) (p0_4 : Int32) (p0_5 : Fn) (p0_6 : Fn) (p0_7 : Fn) (p0_8 : Int32) (p0_9 : Int32) (p0_10 : Int32) (p0_11 : Int32) (p0_12 : Int32) (p0_13 : Int32) (x1 : Int32) (hM_p0 : ToldInv p0_0) (h_p0 : inMod G Ω p0 p0_0 p0_1 p0_2 p0_3 p0_4 p0_5 p0_6 p0_7 p0_8 p0_9 p0_10 p0_11 p0_12 p0_13) : Met l yX9_clashes (wz yX9_clashes cX9_clashes 7 (some .int)) ({ frames := 1, cells := 0, slots := 0, locals := 22 } : Room) (va_Pc [.ref p0, .int x1] (oS G A Ω)) (va_Qi (fun (r : Int32) (Ω1 : Om) => r = (f_X9_clashes p0_0 x1) ∧ Ω1 = Ω) (oB G A) A) 0 0 A := by
  refine Met.ofW (cc := cX9_clashes) (maxL := 7) (ret := (some .int)) (by decide) rfl ?_
  intro p e s m args below meth c s₁ B hml hv
  obtain ⟨rfl, hW, hK, hN, hZ⟩ := hv
  have hx := B.exec
  have hb := B.bytes
  have hr := B.returns
  have hts : ∀ w ∈ gt, w.before _ s = true := fun w hw => atoms_spec (ws := wz yX9_clashes cX9_clashes 7 (some .int)) B.pre w (List.mem_cons_of_mem _ hw)
  have hown : s.vm.findClass RX9 = some m.cls := findClass_of_methodNamed B.named
  have hlocks := B.notSynchronized
  have hA : ∀ q, A q → A q := fun _ h => h
  have hS : va_S A s.heap s.heap [] := va_S.rf
  have hS0 := hS
  have hl := lv_entry ([.ref p0, .int x1]) (n := 7) (Nat.le_of_ble_eq_true rfl)
  rw [lg_entry_eq]
  generalize (lg_sl ([.ref p0, .int x1]) ++ List.replicate (7 - (lg_sl ([.ref p0, .int x1])).length) Slot.unset).toArray = ls at hl ⊢
  have hl : lv_has ls 7 [(0, .ref p0), (1, .int x1)] := hl
  generalize hR : (f_X9_clashes p0_0 x1) = R
  rw [f_X9_clashes] at hR
  refine lv_iload_n hx hb dX9_clashes_0 rfl (lv_at hl 1 rfl) ?_
  refine lv_iconst (v := (0 : Int32)) hx hb dX9_clashes_1 (by decide) ?_
  refine lv_iconst (v := (1 : Int32)) hx hb dX9_clashes_2 (by decide) ?_
  have j_1 : (0 : Int32).toInt = 0 := by decide
  have j_2 : (1 : Int32).toInt = 1 := by decide
  refine o_SiR (rest := []) (As := [.int x1, .int (0 : Int32), .int (1 : Int32)]) (n := 3) hx hb hml hown hts hK hN hZ hW hS hA (c_X9_in l G A Ω x1 (0 : Int32) (1 : Int32)) ml_X9_39 st_X9_in ini_X9 co_X9_in (by decide +kernel) ⟨Nat.zero_le _, Nat.zero_le _⟩ hl.1 (Nat.le_of_ble_eq_true rfl) rfl rfl dX9_clashes_3 (fun r H locs hp hW hS => ?_)
  obtain ⟨rfl, hz_3⟩ := hp
  refine lv_if_ne (tgt := 11) hx hb dX9_clashes_6 (by decide) (fun c_4 => ?_) (fun c_4 => ?_)
  · rw [if_neg c_4] at hR
    have i_4 := rne c_4
    have b_c_4 := rIN c_4
    refine lv_iconst (v := (0 : Int32)) hx hb dX9_clashes_11 (by decide) ?_
    refine lv_istore_n (lv' := [(2, .int (0 : Int32)), (0, .ref p0), (1, .int x1)]) hx hb dX9_clashes_12 rfl hl (by decide) rfl (fun ls hl => ?_)
    refine lv_bipush (v := (-9 : Int32)) hx hb dX9_clashes_13 (by decide) ?_
    refine lv_istore_n (lv' := [(3, .int (-9 : Int32)), (2, .int (0 : Int32)), (0, .ref p0), (1, .int x1)]) hx hb dX9_clashes_15 rfl hl (by decide) rfl (fun ls hl => ?_)
    refine lv_iconst (v := (0 : Int32)) hx hb dX9_clashes_16 (by decide) ?_
    refine lv_istore (lv' := [(4, .int (0 : Int32)), (3, .int (-9 : Int32)), (2, .int (0 : Int32)), (0, .ref p0), (1, .int x1)]) hx hb dX9_clashes_17 hl (by decide) rfl (fun ls hl => ?_)
    have L19 : ∀ (n_6 : Nat) (x2_5 : Int32) (x3_5 : Int32) (x4_5 : Int32) (H : Heap) (locs : List Loc), (0 ≤ x4_5.toInt ∧ x4_5.toInt ≤ 16 ∧ 16 - x4_5.toInt < n_6) → oW G A Ω H → va_S A s.heap H locs → ∀ ls : Array Slot, lv_has ls 7 [(0, .ref p0), (1, .int x1), (2, .int x2_5), (3, .int x3_5), (4, .int x4_5)] → (f_X9_clashes_L19 p0_0 x1 n_6 x2_5 x3_5 x4_5) = R → W p l e (headSpec (wz yX9_clashes cX9_clashes 7 (some .int)) ({ frames := 1, cells := 0, slots := 0, locals := 22 } : Room)).room s m ([.ref p0, .int x1] : List Value).toArray below meth c H locs 0 0 (MQ below (va_Qi (fun (r : Int32) (Ω1 : Om) => r = R ∧ Ω1 = Ω) (oB G A) A) ([.ref p0, .int x1] : List Value).toArray s 0 0 A) (F0 m 19 ls []) := by
      intro n_6
      induction n_6 with
      | zero =>
        intro x2_5 x3_5 x4_5 H locs v_19_0 hW hS ls hl hR
        exfalso
        omega
      | succ n_6 ih19 =>
        intro x2_5 x3_5 x4_5 H locs v_19_0 hW hS ls hl hR
        rw [f_X9_clashes_L19] at hR
        refine lv_iload hx hb dX9_clashes_19 (lv_at hl 4 rfl) ?_
        refine lv_bipush (v := (16 : Int32)) hx hb dX9_clashes_21 (by decide) ?_
        have j_8 : (16 : Int32).toInt = 16 := by decide
        refine lv_icmp_ge (tgt := 143) hx hb dX9_clashes_23 (by decide) (fun c_7 => ?_) (fun c_7 => ?_)
        · rw [if_pos c_7] at hR
          have i_7 := rle c_7
          refine lv_iload_n hx hb dX9_clashes_143 rfl (lv_at hl 1 rfl) ?_
          refine lv_if_ne (tgt := 151) hx hb dX9_clashes_144 (by decide) (fun c_9 => ?_) (fun c_9 => ?_)
          · rw [if_neg c_9] at hR
            have i_9 := rne c_9
            refine lv_iload_n hx hb dX9_clashes_151 rfl (lv_at hl 3 rfl) ?_
            subst hR
            exact W.iret (v := x3_5) hx hb hr (fun t ht hW9 => ⟨⟨x3_5, Ω, rfl, ⟨rfl, rfl⟩, by rw [oB, ht]; exact hW⟩, hS.F ht⟩) hS.2.2 dX9_clashes_152
          · rw [if_pos c_9] at hR
            have i_9 := congrArg Int32.toInt c_9
            refine lv_iload_n hx hb dX9_clashes_147 rfl (lv_at hl 2 rfl) ?_
            refine lv_goto (tgt := 152) hx hb dX9_clashes_148 (by decide) ?_
            subst hR
            exact W.iret (v := x2_5) hx hb hr (fun t ht hW9 => ⟨⟨x2_5, Ω, rfl, ⟨rfl, rfl⟩, by rw [oB, ht]; exact hW⟩, hS.F ht⟩) hS.2.2 dX9_clashes_152
        · rw [if_neg c_7] at hR
          have i_7 := rnle c_7
          refine lv_iconst (v := (0 : Int32)) hx hb dX9_clashes_26 (by decide) ?_
          refine lv_istore (lv' := [(5, .int (0 : Int32)), (0, .ref p0), (1, .int x1), (2, .int x2_5), (3, .int x3_5), (4, .int x4_5)]) hx hb dX9_clashes_27 hl (by decide) rfl (fun ls hl => ?_)
          refine lv_iconst (v := (0 : Int32)) hx hb dX9_clashes_29 (by decide) ?_
          refine lv_istore (lv' := [(6, .int (0 : Int32)), (5, .int (0 : Int32)), (0, .ref p0), (1, .int x1), (2, .int x2_5), (3, .int x3_5), (4, .int x4_5)]) hx hb dX9_clashes_30 hl (by decide) rfl (fun ls hl => ?_)
          have L32 : ∀ (n_11 : Nat) (x5_10 : Int32) (x6_10 : Int32) (H : Heap) (locs : List Loc), (0 ≤ x6_10.toInt ∧ x6_10.toInt ≤ 6 ∧ 6 - x6_10.toInt < n_11) → oW G A Ω H → va_S A s.heap H locs → ∀ ls : Array Slot, lv_has ls 7 [(0, .ref p0), (1, .int x1), (2, .int x2_5), (3, .int x3_5), (4, .int x4_5), (5, .int x5_10), (6, .int x6_10)] → (f_X9_clashes_L32 p0_0 x2_5 x3_5 x4_5 (f_X9_clashes_L19 p0_0 x1 n_6) n_11 x5_10 x6_10) = R → W p l e (headSpec (wz yX9_clashes cX9_clashes 7 (some .int)) ({ frames := 1, cells := 0, slots := 0, locals := 22 } : Room)).room s m ([.ref p0, .int x1] : List Value).toArray below meth c H locs 0 0 (MQ below (va_Qi (fun (r : Int32) (Ω1 : Om) => r = R ∧ Ω1 = Ω) (oB G A) A) ([.ref p0, .int x1] : List Value).toArray s 0 0 A) (F0 m 32 ls []) := by
            intro n_11
            induction n_11 with
            | zero =>
              intro x5_10 x6_10 H locs v_32_0 hW hS ls hl hR
              exfalso
              omega
            | succ n_11 ih32 =>
              intro x5_10 x6_10 H locs v_32_0 hW hS ls hl hR
              rw [f_X9_clashes_L32] at hR
              refine lv_iload hx hb dX9_clashes_32 (lv_at hl 6 rfl) ?_
              refine lv_aload_n hx hb dX9_clashes_34 rfl (lv_at hl 0 rfl) ?_
              refine o_ViR (rest := [.int x6_10]) (As := []) (n := 0) hx hb hml hown hts hK hN hZ hW hS hA (c_X9_registers l G A Ω p0 p0_0 p0_1 p0_2 p0_3 p0_4 p0_5 p0_6 p0_7 p0_8 p0_9 p0_10 p0_11 p0_12 p0_13 hM_p0 h_p0) (inMod_o h_p0) rfl (good_V ml_X9_43 im_X9_registers se_X9_registers ini_X9 co_X9_registers) (by decide +kernel) ⟨Nat.zero_le _, Nat.zero_le _⟩ hl.1 (Nat.le_of_ble_eq_true rfl) rfl rfl dX9_clashes_35 (fun r H locs hp hW hS => ?_)
              subst hp
              try have j_14 : 0 ≤ (f_X9_registers p0_0).toInt ∧ (f_X9_registers p0_0).toInt ≤ 6 := TI_90 hM_p0
              refine lv_icmp_ge (tgt := 71) hx hb dX9_clashes_38 (by decide) (fun c_13 => ?_) (fun c_13 => ?_)
              · rw [if_pos c_13] at hR
                have i_13 := rle c_13
                refine lv_iconst (v := (0 : Int32)) hx hb dX9_clashes_71 (by decide) ?_
                refine lv_istore (lv' := [(6, .int (0 : Int32)), (0, .ref p0), (1, .int x1), (2, .int x2_5), (3, .int x3_5), (4, .int x4_5), (5, .int x5_10)]) hx hb dX9_clashes_72 hl (by decide) rfl (fun ls hl => ?_)
                have L74 : ∀ (n_16 : Nat) (x5_15 : Int32) (x6_15 : Int32) (H : Heap) (locs : List Loc), (0 ≤ x6_15.toInt ∧ x6_15.toInt ≤ 92 ∧ 92 - x6_15.toInt < n_16) → oW G A Ω H → va_S A s.heap H locs → ∀ ls : Array Slot, lv_has ls 7 [(0, .ref p0), (1, .int x1), (2, .int x2_5), (3, .int x3_5), (4, .int x4_5), (5, .int x5_15), (6, .int x6_15)] → (f_X9_clashes_L74 p0_0 x2_5 x3_5 x4_5 (f_X9_clashes_L19 p0_0 x1 n_6) n_16 x5_15 x6_15) = R → W p l e (headSpec (wz yX9_clashes cX9_clashes 7 (some .int)) ({ frames := 1, cells := 0, slots := 0, locals := 22 } : Room)).room s m ([.ref p0, .int x1] : List Value).toArray below meth c H locs 0 0 (MQ below (va_Qi (fun (r : Int32) (Ω1 : Om) => r = R ∧ Ω1 = Ω) (oB G A) A) ([.ref p0, .int x1] : List Value).toArray s 0 0 A) (F0 m 74 ls []) := by
                  intro n_16
                  induction n_16 with
                  | zero =>
                    intro x5_15 x6_15 H locs v_74_0 hW hS ls hl hR
                    exfalso
                    omega
                  | succ n_16 ih74 =>
                    intro x5_15 x6_15 H locs v_74_0 hW hS ls hl hR
                    rw [f_X9_clashes_L74] at hR
                    refine lv_iload hx hb dX9_clashes_74 (lv_at hl 6 rfl) ?_
                    refine lv_aload_n hx hb dX9_clashes_76 rfl (lv_at hl 0 rfl) ?_
                    refine o_get hx hb hts hown hK hW (inMod_o h_p0) rfl ig9 0 (by decide) fl_X9_7 rfl dX9_clashes_77 ?_
                    refine lv_bipush (v := (92 : Int32)) hx hb dX9_clashes_80 (by decide) ?_
                    have j_17 : (92 : Int32).toInt = 92 := by decide
                    refine o_iald hx hb hK hW (inMod_a0 h_p0) (vp_in_iff.mpr ⟨by omega, by omega⟩) dX9_clashes_82 ?_
                    try have j_19 : 0 ≤ (p0_0 (92 : Int32).toNatClampNeg).toInt ∧ (p0_0 (92 : Int32).toNatClampNeg).toInt ≤ 4 := TI_92 hM_p0
                    refine lv_icmp_ge (tgt := 117) hx hb dX9_clashes_83 (by decide) (fun c_18 => ?_) (fun c_18 => ?_)
                    · rw [if_pos c_18] at hR
                      have i_18 := rle c_18
                      refine lv_iload hx hb dX9_clashes_117 (lv_at hl 5 rfl) ?_
                      refine lv_iconst (v := (1 : Int32)) hx hb dX9_clashes_119 (by decide) ?_
                      refine lv_icmp_le (tgt := 137) hx hb dX9_clashes_120 (by decide) (fun c_20 => ?_) (fun c_20 => ?_)
                      · rw [if_pos c_20] at hR
                        have i_20 := rle c_20
                        refine lv_iinc (v := (x4_5 + (1 : Int32))) (lv' := [(4, .int (x4_5 + (1 : Int32))), (0, .ref p0), (1, .int x1), (2, .int x2_5), (3, .int x3_5), (5, .int x5_15), (6, .int x6_15)]) hx hb dX9_clashes_137 hl (k := 4) rfl rfl (by decide) rfl (fun ls hl => ?_)
                        refine lv_goto (tgt := 19) hx hb dX9_clashes_140 (by decide) ?_
                        try have j_21 : (x4_5 + (1 : Int32)).toInt = x4_5.toInt + (1 : Int32).toInt := fb_addI (by omega) (by omega)
                        exact ih19 x2_5 x3_5 (x4_5 + (1 : Int32)) H locs (by omega) hW hS ls (lv_sub hl [1, 2, 3, 4, 0] rfl) hR
                      · rw [if_neg c_20] at hR
                        have i_20 := rnle c_20
                        refine lv_iload_n hx hb dX9_clashes_123 rfl (lv_at hl 2 rfl) ?_
                        refine lv_if_ne (tgt := 132) hx hb dX9_clashes_124 (by decide) (fun c_22 => ?_) (fun c_22 => ?_)
                        · rw [if_neg c_22] at hR
                          have i_22 := rne c_22
                          refine lv_iload_n hx hb dX9_clashes_132 rfl (lv_at hl 3 rfl) ?_
                          refine lv_istore_n (lv' := [(3, .int x3_5), (0, .ref p0), (1, .int x1), (2, .int x2_5), (4, .int x4_5), (5, .int x5_15), (6, .int x6_15)]) hx hb dX9_clashes_133 rfl hl (by decide) rfl (fun ls hl => ?_)
                          refine lv_iinc (v := (x2_5 + (1 : Int32))) (lv' := [(2, .int (x2_5 + (1 : Int32))), (3, .int x3_5), (0, .ref p0), (1, .int x1), (4, .int x4_5), (5, .int x5_15), (6, .int x6_15)]) hx hb dX9_clashes_134 hl (k := 3) rfl rfl (by decide) rfl (fun ls hl => ?_)
                          refine lv_iinc (v := (x4_5 + (1 : Int32))) (lv' := [(4, .int (x4_5 + (1 : Int32))), (2, .int (x2_5 + (1 : Int32))), (3, .int x3_5), (0, .ref p0), (1, .int x1), (5, .int x5_15), (6, .int x6_15)]) hx hb dX9_clashes_137 hl (k := 4) rfl rfl (by decide) rfl (fun ls hl => ?_)
                          refine lv_goto (tgt := 19) hx hb dX9_clashes_140 (by decide) ?_
                          try have j_23 : (x2_5 + (1 : Int32)).toInt = x2_5.toInt + (1 : Int32).toInt := fb_addI (by omega) (by omega)
                          try have j_24 : (x4_5 + (1 : Int32)).toInt = x4_5.toInt + (1 : Int32).toInt := fb_addI (by omega) (by omega)
                          exact ih19 (x2_5 + (1 : Int32)) x3_5 (x4_5 + (1 : Int32)) H locs (by omega) hW hS ls (lv_sub hl [3, 4, 1, 2, 0] rfl) hR
                        · rw [if_pos c_22] at hR
                          have i_22 := congrArg Int32.toInt c_22
                          refine lv_iload hx hb dX9_clashes_127 (lv_at hl 4 rfl) ?_
                          refine lv_goto (tgt := 133) hx hb dX9_clashes_129 (by decide) ?_
                          refine lv_istore_n (lv' := [(3, .int x4_5), (0, .ref p0), (1, .int x1), (2, .int x2_5), (4, .int x4_5), (5, .int x5_15), (6, .int x6_15)]) hx hb dX9_clashes_133 rfl hl (by decide) rfl (fun ls hl => ?_)
                          refine lv_iinc (v := (x2_5 + (1 : Int32))) (lv' := [(2, .int (x2_5 + (1 : Int32))), (3, .int x4_5), (0, .ref p0), (1, .int x1), (4, .int x4_5), (5, .int x5_15), (6, .int x6_15)]) hx hb dX9_clashes_134 hl (k := 3) rfl rfl (by decide) rfl (fun ls hl => ?_)
                          refine lv_iinc (v := (x4_5 + (1 : Int32))) (lv' := [(4, .int (x4_5 + (1 : Int32))), (2, .int (x2_5 + (1 : Int32))), (3, .int x4_5), (0, .ref p0), (1, .int x1), (5, .int x5_15), (6, .int x6_15)]) hx hb dX9_clashes_137 hl (k := 4) rfl rfl (by decide) rfl (fun ls hl => ?_)
                          refine lv_goto (tgt := 19) hx hb dX9_clashes_140 (by decide) ?_
                          try have j_25 : (x2_5 + (1 : Int32)).toInt = x2_5.toInt + (1 : Int32).toInt := fb_addI (by omega) (by omega)
                          try have j_26 : (x4_5 + (1 : Int32)).toInt = x4_5.toInt + (1 : Int32).toInt := fb_addI (by omega) (by omega)
                          exact ih19 (x2_5 + (1 : Int32)) x4_5 (x4_5 + (1 : Int32)) H locs (by omega) hW hS ls (lv_sub hl [3, 4, 1, 2, 0] rfl) hR
                    · rw [if_neg c_18] at hR
                      have i_18 := rnle c_18
                      refine lv_iload hx hb dX9_clashes_86 (lv_at hl 5 rfl) ?_
                      refine lv_aload_n hx hb dX9_clashes_88 rfl (lv_at hl 0 rfl) ?_
                      refine o_get hx hb hts hown hK hW (inMod_o h_p0) rfl ig9 0 (by decide) fl_X9_7 rfl dX9_clashes_89 ?_
                      refine lv_bipush (v := (78 : Int32)) hx hb dX9_clashes_92 (by decide) ?_
                      refine lv_iload hx hb dX9_clashes_94 (lv_at hl 6 rfl) ?_
                      refine lv_iadd hx hb dX9_clashes_96 ?_
                      have j_27 : (78 : Int32).toInt = 78 := by decide
                      try have j_28 : ((78 : Int32) + x6_15).toInt = (78 : Int32).toInt + x6_15.toInt := fb_addI (by omega) (by omega)
                      refine o_iald hx hb hK hW (inMod_a0 h_p0) (vp_in_iff.mpr ⟨by omega, by omega⟩) dX9_clashes_97 ?_
                      refine lv_iload hx hb dX9_clashes_98 (lv_at hl 4 rfl) ?_
                      refine lv_icmp_ne (tgt := 107) hx hb dX9_clashes_100 (by decide) (fun c_29 => ?_) (fun c_29 => ?_)
                      · rw [if_neg c_29] at hR
                        have i_29 := rne c_29
                        refine lv_iconst (v := (0 : Int32)) hx hb dX9_clashes_107 (by decide) ?_
                        refine lv_iadd hx hb dX9_clashes_108 ?_
                        refine lv_istore (lv' := [(5, .int (x5_15 + (0 : Int32))), (0, .ref p0), (1, .int x1), (2, .int x2_5), (3, .int x3_5), (4, .int x4_5), (6, .int x6_15)]) hx hb dX9_clashes_109 hl (by decide) rfl (fun ls hl => ?_)
                        refine lv_iinc (v := (x6_15 + (1 : Int32))) (lv' := [(6, .int (x6_15 + (1 : Int32))), (5, .int (x5_15 + (0 : Int32))), (0, .ref p0), (1, .int x1), (2, .int x2_5), (3, .int x3_5), (4, .int x4_5)]) hx hb dX9_clashes_111 hl (k := 6) rfl rfl (by decide) rfl (fun ls hl => ?_)
                        refine lv_goto (tgt := 74) hx hb dX9_clashes_114 (by decide) ?_
                        try have j_30 : (x5_15 + (0 : Int32)).toInt = x5_15.toInt + (0 : Int32).toInt := fb_addI (by omega) (by omega)
                        try have j_31 : (x6_15 + (1 : Int32)).toInt = x6_15.toInt + (1 : Int32).toInt := fb_addI (by omega) (by omega)
                        exact ih74 (x5_15 + (0 : Int32)) (x6_15 + (1 : Int32)) H locs (by omega) hW hS ls (lv_sub hl [2, 3, 4, 5, 6, 1, 0] rfl) hR
                      · rw [if_pos c_29] at hR
                        have i_29 := congrArg Int32.toInt c_29
                        refine lv_iconst (v := (1 : Int32)) hx hb dX9_clashes_103 (by decide) ?_
                        refine lv_goto (tgt := 108) hx hb dX9_clashes_104 (by decide) ?_
                        refine lv_iadd hx hb dX9_clashes_108 ?_
                        refine lv_istore (lv' := [(5, .int (x5_15 + (1 : Int32))), (0, .ref p0), (1, .int x1), (2, .int x2_5), (3, .int x3_5), (4, .int x4_5), (6, .int x6_15)]) hx hb dX9_clashes_109 hl (by decide) rfl (fun ls hl => ?_)
                        refine lv_iinc (v := (x6_15 + (1 : Int32))) (lv' := [(6, .int (x6_15 + (1 : Int32))), (5, .int (x5_15 + (1 : Int32))), (0, .ref p0), (1, .int x1), (2, .int x2_5), (3, .int x3_5), (4, .int x4_5)]) hx hb dX9_clashes_111 hl (k := 6) rfl rfl (by decide) rfl (fun ls hl => ?_)
                        refine lv_goto (tgt := 74) hx hb dX9_clashes_114 (by decide) ?_
                        try have j_32 : (x5_15 + (1 : Int32)).toInt = x5_15.toInt + (1 : Int32).toInt := fb_addI (by omega) (by omega)
                        try have j_33 : (x6_15 + (1 : Int32)).toInt = x6_15.toInt + (1 : Int32).toInt := fb_addI (by omega) (by omega)
                        exact ih74 (x5_15 + (1 : Int32)) (x6_15 + (1 : Int32)) H locs (by omega) hW hS ls (lv_sub hl [2, 3, 4, 5, 6, 1, 0] rfl) hR
                exact L74 4000 x5_10 (0 : Int32) H locs (by omega) hW hS ls (lv_sub hl [1, 2, 3, 4, 5, 6, 0] rfl) hR
              · rw [if_neg c_13] at hR
                have i_13 := rnle c_13
                refine lv_iload hx hb dX9_clashes_41 (lv_at hl 5 rfl) ?_
                refine lv_aload_n hx hb dX9_clashes_43 rfl (lv_at hl 0 rfl) ?_
                refine o_get hx hb hts hown hK hW (inMod_o h_p0) rfl ig9 0 (by decide) fl_X9_7 rfl dX9_clashes_44 ?_
                refine lv_iconst (v := (0 : Int32)) hx hb dX9_clashes_47 (by decide) ?_
                refine lv_iload hx hb dX9_clashes_48 (lv_at hl 6 rfl) ?_
                refine lv_iadd hx hb dX9_clashes_50 ?_
                try have j_34 : ((0 : Int32) + x6_10).toInt = (0 : Int32).toInt + x6_10.toInt := fb_addI (by omega) (by omega)
                refine o_iald hx hb hK hW (inMod_a0 h_p0) (vp_in_iff.mpr ⟨by omega, by omega⟩) dX9_clashes_51 ?_
                refine lv_iload hx hb dX9_clashes_52 (lv_at hl 4 rfl) ?_
                refine lv_icmp_ne (tgt := 61) hx hb dX9_clashes_54 (by decide) (fun c_35 => ?_) (fun c_35 => ?_)
                · rw [if_neg c_35] at hR
                  have i_35 := rne c_35
                  refine lv_iconst (v := (0 : Int32)) hx hb dX9_clashes_61 (by decide) ?_
                  refine lv_iadd hx hb dX9_clashes_62 ?_
                  refine lv_istore (lv' := [(5, .int (x5_10 + (0 : Int32))), (0, .ref p0), (1, .int x1), (2, .int x2_5), (3, .int x3_5), (4, .int x4_5), (6, .int x6_10)]) hx hb dX9_clashes_63 hl (by decide) rfl (fun ls hl => ?_)
                  refine lv_iinc (v := (x6_10 + (1 : Int32))) (lv' := [(6, .int (x6_10 + (1 : Int32))), (5, .int (x5_10 + (0 : Int32))), (0, .ref p0), (1, .int x1), (2, .int x2_5), (3, .int x3_5), (4, .int x4_5)]) hx hb dX9_clashes_65 hl (k := 6) rfl rfl (by decide) rfl (fun ls hl => ?_)
                  refine lv_goto (tgt := 32) hx hb dX9_clashes_68 (by decide) ?_
                  try have j_36 : (x5_10 + (0 : Int32)).toInt = x5_10.toInt + (0 : Int32).toInt := fb_addI (by omega) (by omega)
                  try have j_37 : (x6_10 + (1 : Int32)).toInt = x6_10.toInt + (1 : Int32).toInt := fb_addI (by omega) (by omega)
                  exact ih32 (x5_10 + (0 : Int32)) (x6_10 + (1 : Int32)) H locs (by omega) hW hS ls (lv_sub hl [2, 3, 4, 5, 6, 1, 0] rfl) hR
                · rw [if_pos c_35] at hR
                  have i_35 := congrArg Int32.toInt c_35
                  refine lv_iconst (v := (1 : Int32)) hx hb dX9_clashes_57 (by decide) ?_
                  refine lv_goto (tgt := 62) hx hb dX9_clashes_58 (by decide) ?_
                  refine lv_iadd hx hb dX9_clashes_62 ?_
                  refine lv_istore (lv' := [(5, .int (x5_10 + (1 : Int32))), (0, .ref p0), (1, .int x1), (2, .int x2_5), (3, .int x3_5), (4, .int x4_5), (6, .int x6_10)]) hx hb dX9_clashes_63 hl (by decide) rfl (fun ls hl => ?_)
                  refine lv_iinc (v := (x6_10 + (1 : Int32))) (lv' := [(6, .int (x6_10 + (1 : Int32))), (5, .int (x5_10 + (1 : Int32))), (0, .ref p0), (1, .int x1), (2, .int x2_5), (3, .int x3_5), (4, .int x4_5)]) hx hb dX9_clashes_65 hl (k := 6) rfl rfl (by decide) rfl (fun ls hl => ?_)
                  refine lv_goto (tgt := 32) hx hb dX9_clashes_68 (by decide) ?_
                  try have j_38 : (x5_10 + (1 : Int32)).toInt = x5_10.toInt + (1 : Int32).toInt := fb_addI (by omega) (by omega)
                  try have j_39 : (x6_10 + (1 : Int32)).toInt = x6_10.toInt + (1 : Int32).toInt := fb_addI (by omega) (by omega)
                  exact ih32 (x5_10 + (1 : Int32)) (x6_10 + (1 : Int32)) H locs (by omega) hW hS ls (lv_sub hl [2, 3, 4, 5, 6, 1, 0] rfl) hR
          exact L32 4000 (0 : Int32) (0 : Int32) H locs (by omega) hW hS ls (lv_sub hl [2, 3, 4, 5, 6, 1, 0] rfl) hR
    have j_40 : (-9 : Int32).toInt = -9 := by decide
    exact L19 4000 (0 : Int32) (-9 : Int32) (0 : Int32) H locs (by omega) hW hS ls (lv_sub hl [3, 4, 2, 1, 0] rfl) hR
  · rw [if_pos c_4] at hR
    have i_4 := congrArg Int32.toInt c_4
    refine lv_iconst (v := (-1 : Int32)) hx hb dX9_clashes_9 (by decide) ?_
    subst hR
    exact W.iret (v := (-1 : Int32)) hx hb hr (fun t ht hW9 => ⟨⟨(-1 : Int32), Ω, rfl, ⟨rfl, rfl⟩, by rw [oB, ht]; exact hW⟩, hS.F ht⟩) hS.2.2 dX9_clashes_10
set_option maxHeartbeats 4000000 in
set_option maxRecDepth 100000 in
theorem c_X9_tryWrite (l : Launch) (G : Gm) (A : Nat → Prop) (Ω : Om) (p0 : Nat) (p0_0 : Fn) (p0_1 : Fn) (p0_2 : Fn) (p0_3 : Fn) (p0_4 : Int32) (p0_5 : Fn) (p0_6 : Fn) (p0_7 : Fn) (p0_8 : Int32) (p0_9 : Int32) (p0_10 : Int32) (p0_11 : Int32) (p0_12 : Int32) (p0_13 : Int32) (x1 : Int32) (x2 : Int32) (hM_p0 : ToldInv p0_0) (h_p0 : inMod G Ω p0 p0_0 p0_1 p0_2 p0_3 p0_4 p0_5 p0_6 p0_7 p0_8 p0_9 p0_10 p0_11 p0_12 p0_13) : Met l yX9_tryWrite (wz yX9_tryWrite cX9_tryWrite 3 none) ({ frames := 4, cells := 0, slots := 0, locals := 102 } : Room) (va_Pc [.ref p0, .int x1, .int x2] (oS G A Ω)) (va_Qv (fun (Ω1 : Om) => inMod G Ω1 p0 p0_0 p0_1 ((f_X9_tryWrite p0_0 p0_2 x1 x2)) p0_3 p0_4 p0_5 p0_6 p0_7 p0_8 p0_9 p0_10 p0_11 p0_12 p0_13 ∧ (∀ q : Nat, (q < p0 ∨ p0 + 8 ≤ q) → Ω1 q = Ω q)) (oB G A) A) 0 0 A := by
  refine Met.ofW (cc := cX9_tryWrite) (maxL := 3) (ret := none) (by decide) rfl ?_
  intro p e s m args below meth c s₁ B hml hv
  obtain ⟨rfl, hW, hK, hN, hZ⟩ := hv
  have hx := B.exec
  have hb := B.bytes
  have hr := B.returns
  have hts : ∀ w ∈ gt, w.before _ s = true := fun w hw => atoms_spec (ws := wz yX9_tryWrite cX9_tryWrite 3 none) B.pre w (List.mem_cons_of_mem _ hw)
  have hown : s.vm.findClass RX9 = some m.cls := findClass_of_methodNamed B.named
  have hlocks := B.notSynchronized
  have hA : ∀ q, A q → A q := fun _ h => h
  have hS : va_S A s.heap s.heap [] := va_S.rf
  have hS0 := hS
  have hl := lv_entry ([.ref p0, .int x1, .int x2]) (n := 3) (Nat.le_of_ble_eq_true rfl)
  rw [lg_entry_eq]
  generalize (lg_sl ([.ref p0, .int x1, .int x2]) ++ List.replicate (3 - (lg_sl ([.ref p0, .int x1, .int x2])).length) Slot.unset).toArray = ls at hl ⊢
  have hl : lv_has ls 3 [(0, .ref p0), (1, .int x1), (2, .int x2)] := hl
  have hE : ∀ q : Nat, (q < p0 ∨ p0 + 8 ≤ q) → Ω q = Ω q := by intros; rfl
  generalize hR : (f_X9_tryWrite p0_0 p0_2 x1 x2) = R
  rw [f_X9_tryWrite] at hR
  refine lv_aload_n hx hb dX9_tryWrite_0 rfl (lv_at hl 0 rfl) ?_
  refine lv_iconst (v := (0 : Int32)) hx hb dX9_tryWrite_1 (by decide) ?_
  refine lv_sipush (v := (135 : Int32)) hx hb dX9_tryWrite_2 (by decide) ?_
  have j_1 : (0 : Int32).toInt = 0 := by decide
  have j_2 : (135 : Int32).toInt = 135 := by decide
  refine o_Vv (rest := []) (As := [.int (0 : Int32), .int (135 : Int32)]) (n := 2) hx hb hml hown hts hK hN hZ hW hS hA (c_X9_copyMachine l G A Ω p0 p0_0 p0_1 p0_2 p0_3 p0_4 p0_5 p0_6 p0_7 p0_8 p0_9 p0_10 p0_11 p0_12 p0_13 (0 : Int32) (135 : Int32) (by omega) (by omega) h_p0) (inMod_o h_p0) rfl (good_V ml_X9_106 im_X9_copyMachine se_X9_copyMachine ini_X9 co_X9_copyMachine) (by decide +kernel) ⟨Nat.zero_le _, Nat.zero_le _⟩ hl.1 (Nat.le_of_ble_eq_true rfl) rfl rfl dX9_tryWrite_5 (fun Ω_3 H locs hp hW hS => ?_)
  obtain ⟨h_p0, hF_3⟩ := hp
  have hE : ∀ q : Nat, (q < p0 ∨ p0 + 8 ≤ q) → Ω_3 q = Ω q := fun q g0 => (hF_3 q (by omega)).trans (hE q g0)
  have q72_3 : ((f_X9_copyMachine p0_2 (0 : Int32) (135 : Int32)) (72 : Int32).toNatClampNeg).toInt = (p0_2 (72 : Int32).toNatClampNeg).toInt := congrArg Int32.toInt (FR_copyMachine (j := 72) (by omega) (by omega) (by omega))
  refine lv_aload_n hx hb dX9_tryWrite_8 rfl (lv_at hl 0 rfl) ?_
  refine lv_sipush (v := (135 : Int32)) hx hb dX9_tryWrite_9 (by decide) ?_
  refine lv_iload_n hx hb dX9_tryWrite_12 rfl (lv_at hl 1 rfl) ?_
  refine lv_iload_n hx hb dX9_tryWrite_13 rfl (lv_at hl 2 rfl) ?_
  refine o_Vv (rest := []) (As := [.int (135 : Int32), .int x1, .int x2]) (n := 3) hx hb hml hown hts hK hN hZ hW hS hA (c_X9_writeTo l G A Ω_3 p0 p0_0 p0_1 (f_X9_copyMachine p0_2 (0 : Int32) (135 : Int32)) p0_3 p0_4 p0_5 p0_6 p0_7 p0_8 p0_9 p0_10 p0_11 p0_12 p0_13 (135 : Int32) x1 x2 hM_p0 (by omega) h_p0) (inMod_o h_p0) rfl (good_V ml_X9_109 im_X9_writeTo se_X9_writeTo ini_X9 co_X9_writeTo) (by decide +kernel) ⟨Nat.zero_le _, Nat.zero_le _⟩ hl.1 (Nat.le_of_ble_eq_true rfl) rfl rfl dX9_tryWrite_14 (fun Ω_4 H locs hp hW hS => ?_)
  obtain ⟨h_p0, hF_4⟩ := hp
  have hE : ∀ q : Nat, (q < p0 ∨ p0 + 8 ≤ q) → Ω_4 q = Ω q := fun q g0 => (hF_4 q (by omega)).trans (hE q g0)
  have q72_4 : ((f_X9_writeTo p0_0 (f_X9_copyMachine p0_2 (0 : Int32) (135 : Int32)) (135 : Int32) x1 x2) (72 : Int32).toNatClampNeg).toInt = ((f_X9_copyMachine p0_2 (0 : Int32) (135 : Int32)) (72 : Int32).toNatClampNeg).toInt := congrArg Int32.toInt (FR_writeTo (j := 72) hM_p0 (by omega) (by omega))
  subst hR
  exact W.vret hx hb hr (fun t ht hW9 => ⟨⟨Ω_4, rfl, ⟨h_p0, hE⟩, by rw [oB, ht]; exact hW⟩, hS.F ht⟩) hS.2.2 dX9_tryWrite_17
set_option maxHeartbeats 4000000 in
set_option maxRecDepth 100000 in
theorem c_X9_touched (l : Launch) (G : Gm) (A : Nat → Prop) (Ω : Om) (p0 : Nat) (p0_0 : Fn) (p0_1 : Fn) (p0_2 : Fn) (p0_3 : Fn) (p0_4 : Int32) (p0_5 : Fn) (p0_6 : Fn) (p0_7 : Fn) (p0_8 : Int32) (p0_9 : Int32) (p0_10 : Int32) (p0_11 : Int32) (p0_12 : Int32) (p0_13 : Int32) (x1 : Int32) (x2 : Int32) (hM_p0 : ToldInv p0_0) (h_p0 : inMod G Ω p0 p0_0 p0_1 p0_2 p0_3 p0_4 p0_5 p0_6 p0_7 p0_8 p0_9 p0_10 p0_11 p0_12 p0_13) : Met l yX9_touched (wz yX9_touched cX9_touched 3 (some .int)) ({ frames := 5, cells := 0, slots := 0, locals := 124 } : Room) (va_Pc [.ref p0, .int x1, .int x2] (oS G A Ω)) (va_Qi (fun (r : Int32) (Ω1 : Om) => r = (f_X9_touched p0_0 p0_2 x1 x2).1 ∧ inMod G Ω1 p0 p0_0 p0_1 ((f_X9_touched p0_0 p0_2 x1 x2).2) p0_3 p0_4 p0_5 p0_6 p0_7 p0_8 p0_9 p0_10 p0_11 p0_12 p0_13 ∧ (∀ q : Nat, (q < p0 ∨ p0 + 8 ≤ q) → Ω1 q = Ω q)) (oB G A) A) 0 0 A := by
  refine Met.ofW (cc := cX9_touched) (maxL := 3) (ret := (some .int)) (by decide) rfl ?_
  intro p e s m args below meth c s₁ B hml hv
  obtain ⟨rfl, hW, hK, hN, hZ⟩ := hv
  have hx := B.exec
  have hb := B.bytes
  have hr := B.returns
  have hts : ∀ w ∈ gt, w.before _ s = true := fun w hw => atoms_spec (ws := wz yX9_touched cX9_touched 3 (some .int)) B.pre w (List.mem_cons_of_mem _ hw)
  have hown : s.vm.findClass RX9 = some m.cls := findClass_of_methodNamed B.named
  have hlocks := B.notSynchronized
  have hA : ∀ q, A q → A q := fun _ h => h
  have hS : va_S A s.heap s.heap [] := va_S.rf
  have hS0 := hS
  have hl := lv_entry ([.ref p0, .int x1, .int x2]) (n := 3) (Nat.le_of_ble_eq_true rfl)
  rw [lg_entry_eq]
  generalize (lg_sl ([.ref p0, .int x1, .int x2]) ++ List.replicate (3 - (lg_sl ([.ref p0, .int x1, .int x2])).length) Slot.unset).toArray = ls at hl ⊢
  have hl : lv_has ls 3 [(0, .ref p0), (1, .int x1), (2, .int x2)] := hl
  have hE : ∀ q : Nat, (q < p0 ∨ p0 + 8 ≤ q) → Ω q = Ω q := by intros; rfl
  generalize hR : (f_X9_touched p0_0 p0_2 x1 x2) = R
  rw [f_X9_touched] at hR
  refine lv_iload_n hx hb dX9_touched_0 rfl (lv_at hl 1 rfl) ?_
  refine lv_iconst (v := (0 : Int32)) hx hb dX9_touched_1 (by decide) ?_
  refine lv_bipush (v := (15 : Int32)) hx hb dX9_touched_2 (by decide) ?_
  have j_1 : (0 : Int32).toInt = 0 := by decide
  have j_2 : (15 : Int32).toInt = 15 := by decide
  refine o_SiR (rest := []) (As := [.int x1, .int (0 : Int32), .int (15 : Int32)]) (n := 3) hx hb hml hown hts hK hN hZ hW hS hA (c_X9_in l G A Ω x1 (0 : Int32) (15 : Int32)) ml_X9_39 st_X9_in ini_X9 co_X9_in (by decide +kernel) ⟨Nat.zero_le _, Nat.zero_le _⟩ hl.1 (Nat.le_of_ble_eq_true rfl) rfl rfl dX9_touched_4 (fun r H locs hp hW hS => ?_)
  obtain ⟨rfl, hz_3⟩ := hp
  refine lv_if_eq (tgt := 21) hx hb dX9_touched_7 (by decide) (fun c_4 => ?_) (fun c_4 => ?_)
  · rw [if_pos c_4] at hR
    have i_4 := congrArg Int32.toInt c_4
    refine lv_iconst (v := (-1 : Int32)) hx hb dX9_touched_21 (by decide) ?_
    subst hR
    exact W.iret (v := (-1 : Int32)) hx hb hr (fun t ht hW9 => ⟨⟨(-1 : Int32), Ω, rfl, ⟨rfl, h_p0, hE⟩, by rw [oB, ht]; exact hW⟩, hS.F ht⟩) hS.2.2 dX9_touched_22
  · rw [if_neg c_4] at hR
    have i_4 := rne c_4
    have b_c_4 := rIN c_4
    refine lv_iload_n hx hb dX9_touched_10 rfl (lv_at hl 2 rfl) ?_
    refine lv_iconst (v := (0 : Int32)) hx hb dX9_touched_11 (by decide) ?_
    refine lv_sipush (v := (255 : Int32)) hx hb dX9_touched_12 (by decide) ?_
    have j_5 : (255 : Int32).toInt = 255 := by decide
    refine o_SiR (rest := []) (As := [.int x2, .int (0 : Int32), .int (255 : Int32)]) (n := 3) hx hb hml hown hts hK hN hZ hW hS hA (c_X9_in l G A Ω x2 (0 : Int32) (255 : Int32)) ml_X9_39 st_X9_in ini_X9 co_X9_in (by decide +kernel) ⟨Nat.zero_le _, Nat.zero_le _⟩ hl.1 (Nat.le_of_ble_eq_true rfl) rfl rfl dX9_touched_15 (fun r H locs hp hW hS => ?_)
    obtain ⟨rfl, hz_6⟩ := hp
    refine lv_if_ne (tgt := 23) hx hb dX9_touched_18 (by decide) (fun c_7 => ?_) (fun c_7 => ?_)
    · rw [if_neg c_7] at hR
      have i_7 := rne c_7
      have b_c_7 := rIN c_7
      refine lv_aload_n hx hb dX9_touched_23 rfl (lv_at hl 0 rfl) ?_
      refine lv_iload_n hx hb dX9_touched_24 rfl (lv_at hl 1 rfl) ?_
      refine lv_iload_n hx hb dX9_touched_25 rfl (lv_at hl 2 rfl) ?_
      refine o_Vv (rest := []) (As := [.int x1, .int x2]) (n := 2) hx hb hml hown hts hK hN hZ hW hS hA (c_X9_tryWrite l G A Ω p0 p0_0 p0_1 p0_2 p0_3 p0_4 p0_5 p0_6 p0_7 p0_8 p0_9 p0_10 p0_11 p0_12 p0_13 x1 x2 hM_p0 h_p0) (inMod_o h_p0) rfl (good_V ml_X9_125 im_X9_tryWrite se_X9_tryWrite ini_X9 co_X9_tryWrite) (by decide +kernel) ⟨Nat.zero_le _, Nat.zero_le _⟩ hl.1 (Nat.le_of_ble_eq_true rfl) rfl rfl dX9_touched_26 (fun Ω_8 H locs hp hW hS => ?_)
      obtain ⟨h_p0, hF_8⟩ := hp
      have hE : ∀ q : Nat, (q < p0 ∨ p0 + 8 ≤ q) → Ω_8 q = Ω q := fun q g0 => (hF_8 q (by omega)).trans (hE q g0)
      refine lv_aload_n hx hb dX9_touched_29 rfl (lv_at hl 0 rfl) ?_
      refine lv_iconst (v := (0 : Int32)) hx hb dX9_touched_30 (by decide) ?_
      refine lv_sipush (v := (135 : Int32)) hx hb dX9_touched_31 (by decide) ?_
      have j_9 : (135 : Int32).toInt = 135 := by decide
      refine o_ViR (rest := []) (As := [.int (0 : Int32), .int (135 : Int32)]) (n := 2) hx hb hml hown hts hK hN hZ hW hS hA (c_X9_otherFields l G A Ω_8 p0 p0_0 p0_1 (f_X9_tryWrite p0_0 p0_2 x1 x2) p0_3 p0_4 p0_5 p0_6 p0_7 p0_8 p0_9 p0_10 p0_11 p0_12 p0_13 (0 : Int32) (135 : Int32) hM_p0 (by omega) (by omega) h_p0) (inMod_o h_p0) rfl (good_V ml_X9_112 im_X9_otherFields se_X9_otherFields ini_X9 co_X9_otherFields) (by decide +kernel) ⟨Nat.zero_le _, Nat.zero_le _⟩ hl.1 (Nat.le_of_ble_eq_true rfl) rfl rfl dX9_touched_34 (fun r H locs hp hW hS => ?_)
      subst hp
      subst hR
      exact W.iret (v := (f_X9_otherFields p0_0 (f_X9_tryWrite p0_0 p0_2 x1 x2) (0 : Int32) (135 : Int32))) hx hb hr (fun t ht hW9 => ⟨⟨(f_X9_otherFields p0_0 (f_X9_tryWrite p0_0 p0_2 x1 x2) (0 : Int32) (135 : Int32)), Ω_8, rfl, ⟨rfl, h_p0, hE⟩, by rw [oB, ht]; exact hW⟩, hS.F ht⟩) hS.2.2 dX9_touched_37
    · rw [if_pos c_7] at hR
      have i_7 := congrArg Int32.toInt c_7
      refine lv_iconst (v := (-1 : Int32)) hx hb dX9_touched_21 (by decide) ?_
      subst hR
      exact W.iret (v := (-1 : Int32)) hx hb hr (fun t ht hW9 => ⟨⟨(-1 : Int32), Ω, rfl, ⟨rfl, h_p0, hE⟩, by rw [oB, ht]; exact hW⟩, hS.F ht⟩) hS.2.2 dX9_touched_22
set_option maxHeartbeats 4000000 in
set_option maxRecDepth 100000 in
theorem c_X9_way (l : Launch) (G : Gm) (A : Nat → Prop) (Ω : Om) (p0 : Nat) (p0_0 : Fn) (p0_1 : Fn) (p0_2 : Fn) (p0_3 : Fn) (p0_4 : Int32) (p0_5 : Fn) (p0_6 : Fn) (p0_7 : Fn) (p0_8 : Int32) (p0_9 : Int32) (p0_10 : Int32) (p0_11 : Int32) (p0_12 : Int32) (p0_13 : Int32) (x1 : Int32) (x2 : Int32) (hM_p0 : ToldInv p0_0) (h_p0 : inMod G Ω p0 p0_0 p0_1 p0_2 p0_3 p0_4 p0_5 p0_6 p0_7 p0_8 p0_9 p0_10 p0_11 p0_12 p0_13) : Met l yX9_way (wz yX9_way cX9_way 4 (some .int)) ({ frames := 5, cells := 0, slots := 0, locals := 124 } : Room) (va_Pc [.ref p0, .int x1, .int x2] (oS G A Ω)) (va_Qi (fun (r : Int32) (Ω1 : Om) => r = (f_X9_way p0_0 p0_2 x1 x2).1 ∧ inMod G Ω1 p0 p0_0 p0_1 ((f_X9_way p0_0 p0_2 x1 x2).2) p0_3 p0_4 p0_5 p0_6 p0_7 p0_8 p0_9 p0_10 p0_11 p0_12 p0_13 ∧ (∀ q : Nat, (q < p0 ∨ p0 + 8 ≤ q) → Ω1 q = Ω q)) (oB G A) A) 0 0 A := by
  refine Met.ofW (cc := cX9_way) (maxL := 4) (ret := (some .int)) (by decide) rfl ?_
  intro p e s m args below meth c s₁ B hml hv
  obtain ⟨rfl, hW, hK, hN, hZ⟩ := hv
  have hx := B.exec
  have hb := B.bytes
  have hr := B.returns
  have hts : ∀ w ∈ gt, w.before _ s = true := fun w hw => atoms_spec (ws := wz yX9_way cX9_way 4 (some .int)) B.pre w (List.mem_cons_of_mem _ hw)
  have hown : s.vm.findClass RX9 = some m.cls := findClass_of_methodNamed B.named
  have hlocks := B.notSynchronized
  have hA : ∀ q, A q → A q := fun _ h => h
  have hS : va_S A s.heap s.heap [] := va_S.rf
  have hS0 := hS
  have hl := lv_entry ([.ref p0, .int x1, .int x2]) (n := 4) (Nat.le_of_ble_eq_true rfl)
  rw [lg_entry_eq]
  generalize (lg_sl ([.ref p0, .int x1, .int x2]) ++ List.replicate (4 - (lg_sl ([.ref p0, .int x1, .int x2])).length) Slot.unset).toArray = ls at hl ⊢
  have hl : lv_has ls 4 [(0, .ref p0), (1, .int x1), (2, .int x2)] := hl
  have hE : ∀ q : Nat, (q < p0 ∨ p0 + 8 ≤ q) → Ω q = Ω q := by intros; rfl
  generalize hR : (f_X9_way p0_0 p0_2 x1 x2) = R
  rw [f_X9_way] at hR
  refine lv_aload_n hx hb dX9_way_0 rfl (lv_at hl 0 rfl) ?_
  refine lv_iload_n hx hb dX9_way_1 rfl (lv_at hl 1 rfl) ?_
  refine o_ViR (rest := []) (As := [.int x1]) (n := 1) hx hb hml hown hts hK hN hZ hW hS hA (c_X9_isField l G A Ω p0 p0_0 p0_1 p0_2 p0_3 p0_4 p0_5 p0_6 p0_7 p0_8 p0_9 p0_10 p0_11 p0_12 p0_13 x1 hM_p0 h_p0) (inMod_o h_p0) rfl (good_V ml_X9_115 im_X9_isField se_X9_isField ini_X9 co_X9_isField) (by decide +kernel) ⟨Nat.zero_le _, Nat.zero_le _⟩ hl.1 (Nat.le_of_ble_eq_true rfl) rfl rfl dX9_way_2 (fun r H locs hp hW hS => ?_)
  obtain ⟨rfl, hz_1⟩ := hp
  have j_3 : (0 : Int32).toInt = 0 := by decide
  refine lv_if_eq (tgt := 21) hx hb dX9_way_5 (by decide) (fun c_2 => ?_) (fun c_2 => ?_)
  · rw [if_pos c_2] at hR
    have i_2 := congrArg Int32.toInt c_2
    refine lv_iconst (v := (-1 : Int32)) hx hb dX9_way_21 (by decide) ?_
    subst hR
    exact W.iret (v := (-1 : Int32)) hx hb hr (fun t ht hW9 => ⟨⟨(-1 : Int32), Ω, rfl, ⟨rfl, h_p0, hE⟩, by rw [oB, ht]; exact hW⟩, hS.F ht⟩) hS.2.2 dX9_way_22
  · rw [if_neg c_2] at hR
    have i_2 := rne c_2
    have b_c_2 := rIF hM_p0 c_2
    refine lv_iload_n hx hb dX9_way_8 rfl (lv_at hl 2 rfl) ?_
    refine lv_iconst (v := (0 : Int32)) hx hb dX9_way_9 (by decide) ?_
    refine lv_aload_n hx hb dX9_way_10 rfl (lv_at hl 0 rfl) ?_
    refine lv_iload_n hx hb dX9_way_11 rfl (lv_at hl 1 rfl) ?_
    refine o_ViR (rest := [.int (0 : Int32), .int x2]) (As := [.int x1]) (n := 1) hx hb hml hown hts hK hN hZ hW hS hA (c_X9_most l G A Ω p0 p0_0 p0_1 p0_2 p0_3 p0_4 p0_5 p0_6 p0_7 p0_8 p0_9 p0_10 p0_11 p0_12 p0_13 x1 hM_p0 (by omega) h_p0) (inMod_o h_p0) rfl (good_V ml_X9_46 im_X9_most se_X9_most ini_X9 co_X9_most) (by decide +kernel) ⟨Nat.zero_le _, Nat.zero_le _⟩ hl.1 (Nat.le_of_ble_eq_true rfl) rfl rfl dX9_way_12 (fun r H locs hp hW hS => ?_)
    subst hp
    refine o_SiR (rest := []) (As := [.int x2, .int (0 : Int32), .int (f_X9_most p0_0 x1)]) (n := 3) hx hb hml hown hts hK hN hZ hW hS hA (c_X9_in l G A Ω x2 (0 : Int32) (f_X9_most p0_0 x1)) ml_X9_39 st_X9_in ini_X9 co_X9_in (by decide +kernel) ⟨Nat.zero_le _, Nat.zero_le _⟩ hl.1 (Nat.le_of_ble_eq_true rfl) rfl rfl dX9_way_15 (fun r H locs hp hW hS => ?_)
    obtain ⟨rfl, hz_5⟩ := hp
    refine lv_if_ne (tgt := 23) hx hb dX9_way_18 (by decide) (fun c_6 => ?_) (fun c_6 => ?_)
    · rw [if_neg c_6] at hR
      have i_6 := rne c_6
      have b_c_6 := rIN c_6
      refine lv_iconst (v := (0 : Int32)) hx hb dX9_way_23 (by decide) ?_
      refine lv_istore_n (lv' := [(3, .int (0 : Int32)), (0, .ref p0), (1, .int x1), (2, .int x2)]) hx hb dX9_way_24 rfl hl (by decide) rfl (fun ls hl => ?_)
      have L25 : ∀ (n_8 : Nat) (x3_7 : Int32) (p0_2_7 : Fn) (Ω_9 : Om) (H : Heap) (locs : List Loc), (0 ≤ x3_7.toInt ∧ x3_7.toInt ≤ 4096 ∧ 4096 - x3_7.toInt < n_8) → inMod G Ω_9 p0 p0_0 p0_1 p0_2_7 p0_3 p0_4 p0_5 p0_6 p0_7 p0_8 p0_9 p0_10 p0_11 p0_12 p0_13 → (∀ q : Nat, (q < p0 ∨ p0 + 8 ≤ q) → Ω_9 q = Ω q) → oW G A Ω_9 H → va_S A s.heap H locs → ∀ ls : Array Slot, lv_has ls 4 [(0, .ref p0), (1, .int x1), (2, .int x2), (3, .int x3_7)] → (f_X9_way_L25 p0_0 x1 x2 n_8 x3_7 p0_2_7) = R → W p l e (headSpec (wz yX9_way cX9_way 4 (some .int)) ({ frames := 5, cells := 0, slots := 0, locals := 124 } : Room)).room s m ([.ref p0, .int x1, .int x2] : List Value).toArray below meth c H locs 0 0 (MQ below (va_Qi (fun (r : Int32) (Ω1 : Om) => r = R.1 ∧ inMod G Ω1 p0 p0_0 p0_1 (R.2) p0_3 p0_4 p0_5 p0_6 p0_7 p0_8 p0_9 p0_10 p0_11 p0_12 p0_13 ∧ (∀ q : Nat, (q < p0 ∨ p0 + 8 ≤ q) → Ω1 q = Ω q)) (oB G A) A) ([.ref p0, .int x1, .int x2] : List Value).toArray s 0 0 A) (F0 m 25 ls []) := by
        intro n_8
        induction n_8 with
        | zero =>
          intro x3_7 p0_2_7 Ω_9 H locs v_25_0 h_p0 hE hW hS ls hl hR
          exfalso
          omega
        | succ n_8 ih25 =>
          intro x3_7 p0_2_7 Ω_9 H locs v_25_0 h_p0 hE hW hS ls hl hR
          rw [f_X9_way_L25] at hR
          refine lv_iload_n hx hb dX9_way_25 rfl (lv_at hl 3 rfl) ?_
          refine lv_sipush (v := (4096 : Int32)) hx hb dX9_way_26 (by decide) ?_
          have j_11 : (4096 : Int32).toInt = 4096 := by decide
          refine lv_icmp_ge (tgt := 68) hx hb dX9_way_29 (by decide) (fun c_10 => ?_) (fun c_10 => ?_)
          · rw [if_pos c_10] at hR
            have i_10 := rle c_10
            refine lv_bipush (v := (-9 : Int32)) hx hb dX9_way_68 (by decide) ?_
            subst hR
            exact W.iret (v := (-9 : Int32)) hx hb hr (fun t ht hW9 => ⟨⟨(-9 : Int32), Ω_9, rfl, ⟨rfl, h_p0, hE⟩, by rw [oB, ht]; exact hW⟩, hS.F ht⟩) hS.2.2 dX9_way_70
          · rw [if_neg c_10] at hR
            have i_10 := rnle c_10
            refine lv_aload_n hx hb dX9_way_32 rfl (lv_at hl 0 rfl) ?_
            refine lv_iload_n hx hb dX9_way_33 rfl (lv_at hl 3 rfl) ?_
            refine lv_sipush (v := (256 : Int32)) hx hb dX9_way_34 (by decide) ?_
            refine lv_idiv hx hb dX9_way_37 (by decide) ?_
            refine lv_iload_n hx hb dX9_way_38 rfl (lv_at hl 3 rfl) ?_
            refine lv_sipush (v := (256 : Int32)) hx hb dX9_way_39 (by decide) ?_
            refine lv_irem hx hb dX9_way_42 (by decide) ?_
            try have j_12 : (x3_7 / (256 : Int32)).toInt = x3_7.toInt / 256 := rg_div (by decide) (by omega) (by decide)
            try have j_13 : (x3_7 - x3_7 / (256 : Int32) * (256 : Int32)).toInt = x3_7.toInt - x3_7.toInt / 256 * 256 := rg_rem (by decide) (by omega) (by decide)
            refine o_Vv (rest := []) (As := [.int (x3_7 / (256 : Int32)), .int (x3_7 - x3_7 / (256 : Int32) * (256 : Int32))]) (n := 2) hx hb hml hown hts hK hN hZ hW hS hA (c_X9_tryWrite l G A Ω_9 p0 p0_0 p0_1 p0_2_7 p0_3 p0_4 p0_5 p0_6 p0_7 p0_8 p0_9 p0_10 p0_11 p0_12 p0_13 (x3_7 / (256 : Int32)) (x3_7 - x3_7 / (256 : Int32) * (256 : Int32)) hM_p0 h_p0) (inMod_o h_p0) rfl (good_V ml_X9_125 im_X9_tryWrite se_X9_tryWrite ini_X9 co_X9_tryWrite) (by decide +kernel) ⟨Nat.zero_le _, Nat.zero_le _⟩ hl.1 (Nat.le_of_ble_eq_true rfl) rfl rfl dX9_way_43 (fun Ω_14 H locs hp hW hS => ?_)
            obtain ⟨h_p0, hF_14⟩ := hp
            have hE : ∀ q : Nat, (q < p0 ∨ p0 + 8 ≤ q) → Ω_14 q = Ω q := fun q g0 => (hF_14 q (by omega)).trans (hE q g0)
            refine lv_aload_n hx hb dX9_way_46 rfl (lv_at hl 0 rfl) ?_
            refine o_get hx hb hts hown hK hW (inMod_o h_p0) rfl ig9 2 (by decide) fl_X9_16 rfl dX9_way_47 ?_
            refine lv_sipush (v := (135 : Int32)) hx hb dX9_way_50 (by decide) ?_
            refine lv_iload_n hx hb dX9_way_53 rfl (lv_at hl 1 rfl) ?_
            refine lv_iadd hx hb dX9_way_54 ?_
            have j_15 : (135 : Int32).toInt = 135 := by decide
            try have j_16 : ((135 : Int32) + x1).toInt = (135 : Int32).toInt + x1.toInt := fb_addI (by omega) (by omega)
            refine o_iald hx hb hK hW (inMod_a2 h_p0) (vp_in_iff.mpr ⟨by omega, by omega⟩) dX9_way_55 ?_
            refine lv_iload_n hx hb dX9_way_56 rfl (lv_at hl 2 rfl) ?_
            refine lv_icmp_ne (tgt := 62) hx hb dX9_way_57 (by decide) (fun c_17 => ?_) (fun c_17 => ?_)
            · rw [if_neg c_17] at hR
              have i_17 := rne c_17
              refine lv_iinc (v := (x3_7 + (1 : Int32))) (lv' := [(3, .int (x3_7 + (1 : Int32))), (0, .ref p0), (1, .int x1), (2, .int x2)]) hx hb dX9_way_62 hl (k := 3) rfl rfl (by decide) rfl (fun ls hl => ?_)
              refine lv_goto (tgt := 25) hx hb dX9_way_65 (by decide) ?_
              have j_18 : (1 : Int32).toInt = 1 := by decide
              try have j_19 : (x3_7 + (1 : Int32)).toInt = x3_7.toInt + (1 : Int32).toInt := fb_addI (by omega) (by omega)
              exact ih25 (x3_7 + (1 : Int32)) (f_X9_tryWrite p0_0 p0_2_7 (x3_7 / (256 : Int32)) (x3_7 - x3_7 / (256 : Int32) * (256 : Int32))) Ω_14 H locs (by omega) h_p0 hE hW hS ls (lv_sub hl [1, 2, 3, 0] rfl) hR
            · rw [if_pos c_17] at hR
              have i_17 := congrArg Int32.toInt c_17
              refine lv_iload_n hx hb dX9_way_60 rfl (lv_at hl 3 rfl) ?_
              subst hR
              exact W.iret (v := x3_7) hx hb hr (fun t ht hW9 => ⟨⟨x3_7, Ω_14, rfl, ⟨rfl, h_p0, hE⟩, by rw [oB, ht]; exact hW⟩, hS.F ht⟩) hS.2.2 dX9_way_61
      exact L25 5000 (0 : Int32) p0_2 Ω H locs (by omega) h_p0 hE hW hS ls (lv_sub hl [1, 2, 3, 0] rfl) hR
    · rw [if_pos c_6] at hR
      have i_6 := congrArg Int32.toInt c_6
      refine lv_iconst (v := (-1 : Int32)) hx hb dX9_way_21 (by decide) ?_
      subst hR
      exact W.iret (v := (-1 : Int32)) hx hb hr (fun t ht hW9 => ⟨⟨(-1 : Int32), Ω, rfl, ⟨rfl, h_p0, hE⟩, by rw [oB, ht]; exact hW⟩, hS.F ht⟩) hS.2.2 dX9_way_22
set_option maxHeartbeats 4000000 in
set_option maxRecDepth 100000 in
theorem c_X9_isLockOrGate (l : Launch) (G : Gm) (A : Nat → Prop) (Ω : Om) (p0 : Nat) (p0_0 : Fn) (p0_1 : Fn) (p0_2 : Fn) (p0_3 : Fn) (p0_4 : Int32) (p0_5 : Fn) (p0_6 : Fn) (p0_7 : Fn) (p0_8 : Int32) (p0_9 : Int32) (p0_10 : Int32) (p0_11 : Int32) (p0_12 : Int32) (p0_13 : Int32) (x1 : Int32) (x2 : Int32) (hM_p0 : ToldInv p0_0) (hw : 0 ≤ x2.toInt ∧ x2.toInt ≤ 12) (h_p0 : inMod G Ω p0 p0_0 p0_1 p0_2 p0_3 p0_4 p0_5 p0_6 p0_7 p0_8 p0_9 p0_10 p0_11 p0_12 p0_13) : Met l yX9_isLockOrGate (wz yX9_isLockOrGate cX9_isLockOrGate 5 (some .boolean)) ({ frames := 1, cells := 0, slots := 0, locals := 20 } : Room) (va_Pc [.ref p0, .int x1, .int x2] (oS G A Ω)) (va_Qi (fun (r : Int32) (Ω1 : Om) => (r = (f_X9_isLockOrGate p0_0 x1 x2) ∧ (r = 0 ∨ r = 1)) ∧ Ω1 = Ω) (oB G A) A) 0 0 A := by
  refine Met.ofW (cc := cX9_isLockOrGate) (maxL := 5) (ret := (some .boolean)) (by decide) rfl ?_
  intro p e s m args below meth c s₁ B hml hv
  obtain ⟨rfl, hW, hK, hN, hZ⟩ := hv
  have hx := B.exec
  have hb := B.bytes
  have hr := B.returns
  have hts : ∀ w ∈ gt, w.before _ s = true := fun w hw => atoms_spec (ws := wz yX9_isLockOrGate cX9_isLockOrGate 5 (some .boolean)) B.pre w (List.mem_cons_of_mem _ hw)
  have hown : s.vm.findClass RX9 = some m.cls := findClass_of_methodNamed B.named
  have hlocks := B.notSynchronized
  have hA : ∀ q, A q → A q := fun _ h => h
  have hS : va_S A s.heap s.heap [] := va_S.rf
  have hS0 := hS
  have hl := lv_entry ([.ref p0, .int x1, .int x2]) (n := 5) (Nat.le_of_ble_eq_true rfl)
  rw [lg_entry_eq]
  generalize (lg_sl ([.ref p0, .int x1, .int x2]) ++ List.replicate (5 - (lg_sl ([.ref p0, .int x1, .int x2])).length) Slot.unset).toArray = ls at hl ⊢
  have hl : lv_has ls 5 [(0, .ref p0), (1, .int x1), (2, .int x2)] := hl
  generalize hR : (f_X9_isLockOrGate p0_0 x1 x2) = R
  rw [f_X9_isLockOrGate] at hR
  refine lv_iconst (v := (0 : Int32)) hx hb dX9_isLockOrGate_0 (by decide) ?_
  refine lv_istore_n (lv' := [(3, .int (0 : Int32)), (0, .ref p0), (1, .int x1), (2, .int x2)]) hx hb dX9_isLockOrGate_1 rfl hl (by decide) rfl (fun ls hl => ?_)
  refine lv_iconst (v := (0 : Int32)) hx hb dX9_isLockOrGate_2 (by decide) ?_
  refine lv_istore (lv' := [(4, .int (0 : Int32)), (3, .int (0 : Int32)), (0, .ref p0), (1, .int x1), (2, .int x2)]) hx hb dX9_isLockOrGate_3 hl (by decide) rfl (fun ls hl => ?_)
  have L5 : ∀ (n_2 : Nat) (x3_1 : Int32) (x4_1 : Int32) (H : Heap) (locs : List Loc), (0 ≤ x4_1.toInt ∧ x4_1.toInt ≤ 6 ∧ 6 - x4_1.toInt < n_2) → (x3_1 = 0 ∨ x3_1 = 1) → oW G A Ω H → va_S A s.heap H locs → ∀ ls : Array Slot, lv_has ls 5 [(0, .ref p0), (1, .int x1), (2, .int x2), (3, .int x3_1), (4, .int x4_1)] → (f_X9_isLockOrGate_L5 p0_0 x1 x2 n_2 x3_1 x4_1) = R → W p l e (headSpec (wz yX9_isLockOrGate cX9_isLockOrGate 5 (some .boolean)) ({ frames := 1, cells := 0, slots := 0, locals := 20 } : Room)).room s m ([.ref p0, .int x1, .int x2] : List Value).toArray below meth c H locs 0 0 (MQ below (va_Qi (fun (r : Int32) (Ω1 : Om) => (r = R ∧ (r = 0 ∨ r = 1)) ∧ Ω1 = Ω) (oB G A) A) ([.ref p0, .int x1, .int x2] : List Value).toArray s 0 0 A) (F0 m 5 ls []) := by
    intro n_2
    induction n_2 with
    | zero =>
      intro x3_1 x4_1 H locs v_5_0 v_5_1 hW hS ls hl hR
      exfalso
      omega
    | succ n_2 ih5 =>
      intro x3_1 x4_1 H locs v_5_0 v_5_1 hW hS ls hl hR
      rw [f_X9_isLockOrGate_L5] at hR
      refine lv_iload hx hb dX9_isLockOrGate_5 (lv_at hl 4 rfl) ?_
      refine lv_aload_n hx hb dX9_isLockOrGate_7 rfl (lv_at hl 0 rfl) ?_
      refine o_ViR (rest := [.int x4_1]) (As := []) (n := 0) hx hb hml hown hts hK hN hZ hW hS hA (c_X9_registers l G A Ω p0 p0_0 p0_1 p0_2 p0_3 p0_4 p0_5 p0_6 p0_7 p0_8 p0_9 p0_10 p0_11 p0_12 p0_13 hM_p0 h_p0) (inMod_o h_p0) rfl (good_V ml_X9_43 im_X9_registers se_X9_registers ini_X9 co_X9_registers) (by decide +kernel) ⟨Nat.zero_le _, Nat.zero_le _⟩ hl.1 (Nat.le_of_ble_eq_true rfl) rfl rfl dX9_isLockOrGate_8 (fun r H locs hp hW hS => ?_)
      subst hp
      try have j_5 : 0 ≤ (f_X9_registers p0_0).toInt ∧ (f_X9_registers p0_0).toInt ≤ 6 := TI_90 hM_p0
      refine lv_icmp_ge (tgt := 43) hx hb dX9_isLockOrGate_11 (by decide) (fun c_4 => ?_) (fun c_4 => ?_)
      · rw [if_pos c_4] at hR
        have i_4 := rle c_4
        refine lv_iload_n hx hb dX9_isLockOrGate_43 rfl (lv_at hl 3 rfl) ?_
        subst hR
        exact W.zret (v := x3_1) hx hb hr (nb01 (by assumption)) (fun t ht hW9 => ⟨⟨x3_1, Ω, rfl, ⟨⟨rfl, (by assumption)⟩, rfl⟩, by rw [oB, ht]; exact hW⟩, hS.F ht⟩) hS.2.2 dX9_isLockOrGate_44
      · rw [if_neg c_4] at hR
        have i_4 := rnle c_4
        refine lv_iload_n hx hb dX9_isLockOrGate_14 rfl (lv_at hl 3 rfl) ?_
        have j_7 : (0 : Int32).toInt = 0 := by decide
        refine lv_if_ne (tgt := 31) hx hb dX9_isLockOrGate_15 (by decide) (fun c_6 => ?_) (fun c_6 => ?_)
        · rw [if_neg c_6] at hR
          have i_6 := rne c_6
          refine lv_iconst (v := (1 : Int32)) hx hb dX9_isLockOrGate_31 (by decide) ?_
          refine lv_goto (tgt := 36) hx hb dX9_isLockOrGate_32 (by decide) ?_
          refine lv_istore_n (lv' := [(3, .int (1 : Int32)), (0, .ref p0), (1, .int x1), (2, .int x2), (4, .int x4_1)]) hx hb dX9_isLockOrGate_36 rfl hl (by decide) rfl (fun ls hl => ?_)
          refine lv_iinc (v := (x4_1 + (1 : Int32))) (lv' := [(4, .int (x4_1 + (1 : Int32))), (3, .int (1 : Int32)), (0, .ref p0), (1, .int x1), (2, .int x2)]) hx hb dX9_isLockOrGate_37 hl (k := 4) rfl rfl (by decide) rfl (fun ls hl => ?_)
          refine lv_goto (tgt := 5) hx hb dX9_isLockOrGate_40 (by decide) ?_
          have j_8 : (1 : Int32).toInt = 1 := by decide
          try have j_9 : (x4_1 + (1 : Int32)).toInt = x4_1.toInt + (1 : Int32).toInt := fb_addI (by omega) (by omega)
          exact ih5 (1 : Int32) (x4_1 + (1 : Int32)) H locs (by omega) (by first | exact Or.inl rfl | exact Or.inr rfl | assumption) hW hS ls (lv_sub hl [2, 3, 4, 1, 0] rfl) hR
        · rw [if_pos c_6] at hR
          have i_6 := congrArg Int32.toInt c_6
          refine lv_aload_n hx hb dX9_isLockOrGate_18 rfl (lv_at hl 0 rfl) ?_
          refine o_get hx hb hts hown hK hW (inMod_o h_p0) rfl ig9 0 (by decide) fl_X9_7 rfl dX9_isLockOrGate_19 ?_
          refine lv_iload_n hx hb dX9_isLockOrGate_22 rfl (lv_at hl 2 rfl) ?_
          refine lv_iload hx hb dX9_isLockOrGate_23 (lv_at hl 4 rfl) ?_
          refine lv_iadd hx hb dX9_isLockOrGate_25 ?_
          try have j_10 : (x2 + x4_1).toInt = x2.toInt + x4_1.toInt := fb_addI (by omega) (by omega)
          refine o_iald hx hb hK hW (inMod_a0 h_p0) (vp_in_iff.mpr ⟨by omega, by omega⟩) dX9_isLockOrGate_26 ?_
          refine lv_iload_n hx hb dX9_isLockOrGate_27 rfl (lv_at hl 1 rfl) ?_
          refine lv_icmp_ne (tgt := 35) hx hb dX9_isLockOrGate_28 (by decide) (fun c_11 => ?_) (fun c_11 => ?_)
          · rw [if_neg c_11] at hR
            have i_11 := rne c_11
            refine lv_iconst (v := (0 : Int32)) hx hb dX9_isLockOrGate_35 (by decide) ?_
            refine lv_istore_n (lv' := [(3, .int (0 : Int32)), (0, .ref p0), (1, .int x1), (2, .int x2), (4, .int x4_1)]) hx hb dX9_isLockOrGate_36 rfl hl (by decide) rfl (fun ls hl => ?_)
            refine lv_iinc (v := (x4_1 + (1 : Int32))) (lv' := [(4, .int (x4_1 + (1 : Int32))), (3, .int (0 : Int32)), (0, .ref p0), (1, .int x1), (2, .int x2)]) hx hb dX9_isLockOrGate_37 hl (k := 4) rfl rfl (by decide) rfl (fun ls hl => ?_)
            refine lv_goto (tgt := 5) hx hb dX9_isLockOrGate_40 (by decide) ?_
            have j_12 : (1 : Int32).toInt = 1 := by decide
            try have j_13 : (x4_1 + (1 : Int32)).toInt = x4_1.toInt + (1 : Int32).toInt := fb_addI (by omega) (by omega)
            exact ih5 (0 : Int32) (x4_1 + (1 : Int32)) H locs (by omega) (by first | exact Or.inl rfl | exact Or.inr rfl | assumption) hW hS ls (lv_sub hl [2, 3, 4, 1, 0] rfl) hR
          · rw [if_pos c_11] at hR
            have i_11 := congrArg Int32.toInt c_11
            refine lv_iconst (v := (1 : Int32)) hx hb dX9_isLockOrGate_31 (by decide) ?_
            refine lv_goto (tgt := 36) hx hb dX9_isLockOrGate_32 (by decide) ?_
            refine lv_istore_n (lv' := [(3, .int (1 : Int32)), (0, .ref p0), (1, .int x1), (2, .int x2), (4, .int x4_1)]) hx hb dX9_isLockOrGate_36 rfl hl (by decide) rfl (fun ls hl => ?_)
            refine lv_iinc (v := (x4_1 + (1 : Int32))) (lv' := [(4, .int (x4_1 + (1 : Int32))), (3, .int (1 : Int32)), (0, .ref p0), (1, .int x1), (2, .int x2)]) hx hb dX9_isLockOrGate_37 hl (k := 4) rfl rfl (by decide) rfl (fun ls hl => ?_)
            refine lv_goto (tgt := 5) hx hb dX9_isLockOrGate_40 (by decide) ?_
            have j_14 : (1 : Int32).toInt = 1 := by decide
            try have j_15 : (x4_1 + (1 : Int32)).toInt = x4_1.toInt + (1 : Int32).toInt := fb_addI (by omega) (by omega)
            exact ih5 (1 : Int32) (x4_1 + (1 : Int32)) H locs (by omega) (by first | exact Or.inl rfl | exact Or.inr rfl | assumption) hW hS ls (lv_sub hl [2, 3, 4, 1, 0] rfl) hR
  have j_16 : (0 : Int32).toInt = 0 := by decide
  exact L5 4000 (0 : Int32) (0 : Int32) s.heap [] (by omega) (by first | exact Or.inl rfl | exact Or.inr rfl | assumption) hW hS ls (lv_sub hl [2, 3, 4, 1, 0] rfl) hR
set_option maxHeartbeats 4000000 in
set_option maxRecDepth 100000 in
theorem c_X9_isWalked (l : Launch) (G : Gm) (A : Nat → Prop) (Ω : Om) (p0 : Nat) (p0_0 : Fn) (p0_1 : Fn) (p0_2 : Fn) (p0_3 : Fn) (p0_4 : Int32) (p0_5 : Fn) (p0_6 : Fn) (p0_7 : Fn) (p0_8 : Int32) (p0_9 : Int32) (p0_10 : Int32) (p0_11 : Int32) (p0_12 : Int32) (p0_13 : Int32) (x1 : Int32) (hM_p0 : ToldInv p0_0) (hi_x1 : 0 ≤ x1.toInt ∧ x1.toInt < 6) (h_p0 : inMod G Ω p0 p0_0 p0_1 p0_2 p0_3 p0_4 p0_5 p0_6 p0_7 p0_8 p0_9 p0_10 p0_11 p0_12 p0_13) : Met l yX9_isWalked (wz yX9_isWalked cX9_isWalked 5 (some .boolean)) ({ frames := 2, cells := 0, slots := 0, locals := 44 } : Room) (va_Pc [.ref p0, .int x1] (oS G A Ω)) (va_Qi (fun (r : Int32) (Ω1 : Om) => (r = (f_X9_isWalked p0_0 p0_2 x1) ∧ (r = 0 ∨ r = 1)) ∧ Ω1 = Ω) (oB G A) A) 0 0 A := by
  refine Met.ofW (cc := cX9_isWalked) (maxL := 5) (ret := (some .boolean)) (by decide) rfl ?_
  intro p e s m args below meth c s₁ B hml hv
  obtain ⟨rfl, hW, hK, hN, hZ⟩ := hv
  have hx := B.exec
  have hb := B.bytes
  have hr := B.returns
  have hts : ∀ w ∈ gt, w.before _ s = true := fun w hw => atoms_spec (ws := wz yX9_isWalked cX9_isWalked 5 (some .boolean)) B.pre w (List.mem_cons_of_mem _ hw)
  have hown : s.vm.findClass RX9 = some m.cls := findClass_of_methodNamed B.named
  have hlocks := B.notSynchronized
  have hA : ∀ q, A q → A q := fun _ h => h
  have hS : va_S A s.heap s.heap [] := va_S.rf
  have hS0 := hS
  have hl := lv_entry ([.ref p0, .int x1]) (n := 5) (Nat.le_of_ble_eq_true rfl)
  rw [lg_entry_eq]
  generalize (lg_sl ([.ref p0, .int x1]) ++ List.replicate (5 - (lg_sl ([.ref p0, .int x1])).length) Slot.unset).toArray = ls at hl ⊢
  have hl : lv_has ls 5 [(0, .ref p0), (1, .int x1)] := hl
  generalize hR : (f_X9_isWalked p0_0 p0_2 x1) = R
  rw [f_X9_isWalked] at hR
  refine lv_aload_n hx hb dX9_isWalked_0 rfl (lv_at hl 0 rfl) ?_
  refine lv_aload_n hx hb dX9_isWalked_1 rfl (lv_at hl 0 rfl) ?_
  refine o_get hx hb hts hown hK hW (inMod_o h_p0) rfl ig9 0 (by decide) fl_X9_7 rfl dX9_isWalked_2 ?_
  refine lv_iconst (v := (0 : Int32)) hx hb dX9_isWalked_5 (by decide) ?_
  refine lv_iload_n hx hb dX9_isWalked_6 rfl (lv_at hl 1 rfl) ?_
  refine lv_iadd hx hb dX9_isWalked_7 ?_
  have j_1 : (0 : Int32).toInt = 0 := by decide
  try have j_2 : ((0 : Int32) + x1).toInt = (0 : Int32).toInt + x1.toInt := fb_addI (by omega) (by omega)
  refine o_iald hx hb hK hW (inMod_a0 h_p0) (vp_in_iff.mpr ⟨by omega, by omega⟩) dX9_isWalked_8 ?_
  refine o_ViR (rest := []) (As := [.int (p0_0 ((0 : Int32) + x1).toNatClampNeg)]) (n := 1) hx hb hml hown hts hK hN hZ hW hS hA (c_X9_goesTo l G A Ω p0 p0_0 p0_1 p0_2 p0_3 p0_4 p0_5 p0_6 p0_7 p0_8 p0_9 p0_10 p0_11 p0_12 p0_13 (p0_0 ((0 : Int32) + x1).toNatClampNeg) hM_p0 h_p0) (inMod_o h_p0) rfl (good_V ml_X9_64 im_X9_goesTo se_X9_goesTo ini_X9 co_X9_goesTo) (by decide +kernel) ⟨Nat.zero_le _, Nat.zero_le _⟩ hl.1 (Nat.le_of_ble_eq_true rfl) rfl rfl dX9_isWalked_9 (fun r H locs hp hW hS => ?_)
  subst hp
  refine lv_iload_n hx hb dX9_isWalked_12 rfl (lv_at hl 1 rfl) ?_
  have J45 : ∀ (s0_4 : Int32) (H : Heap) (locs : List Loc), (s0_4 = 0 ∨ s0_4 = 1) → oW G A Ω H → va_S A s.heap H locs → ∀ ls : Array Slot, lv_has ls 5 [(0, .ref p0), (1, .int x1)] → (f_X9_isWalked_J45 p0_0 x1 s0_4) = R → W p l e (headSpec (wz yX9_isWalked cX9_isWalked 5 (some .boolean)) ({ frames := 2, cells := 0, slots := 0, locals := 44 } : Room)).room s m ([.ref p0, .int x1] : List Value).toArray below meth c H locs 0 0 (MQ below (va_Qi (fun (r : Int32) (Ω1 : Om) => (r = R ∧ (r = 0 ∨ r = 1)) ∧ Ω1 = Ω) (oB G A) A) ([.ref p0, .int x1] : List Value).toArray s 0 0 A) (F0 m 45 ls [.int s0_4]) := by
    intro s0_4 H locs v_45_0 hW hS ls hl hR
    rw [f_X9_isWalked_J45] at hR
    refine lv_istore_n (lv' := [(2, .int s0_4), (0, .ref p0), (1, .int x1)]) hx hb dX9_isWalked_45 rfl hl (by decide) rfl (fun ls hl => ?_)
    refine lv_iconst (v := (0 : Int32)) hx hb dX9_isWalked_46 (by decide) ?_
    refine lv_istore_n (lv' := [(3, .int (0 : Int32)), (2, .int s0_4), (0, .ref p0), (1, .int x1)]) hx hb dX9_isWalked_47 rfl hl (by decide) rfl (fun ls hl => ?_)
    have L48 : ∀ (n_6 : Nat) (x2_5 : Int32) (x3_5 : Int32) (H : Heap) (locs : List Loc), (0 ≤ x3_5.toInt ∧ x3_5.toInt ≤ 12 ∧ 12 - x3_5.toInt < n_6) → (x2_5 = 0 ∨ x2_5 = 1) → oW G A Ω H → va_S A s.heap H locs → ∀ ls : Array Slot, lv_has ls 5 [(0, .ref p0), (1, .int x1), (2, .int x2_5), (3, .int x3_5)] → (f_X9_isWalked_L48 p0_0 x1 n_6 x2_5 x3_5) = R → W p l e (headSpec (wz yX9_isWalked cX9_isWalked 5 (some .boolean)) ({ frames := 2, cells := 0, slots := 0, locals := 44 } : Room)).room s m ([.ref p0, .int x1] : List Value).toArray below meth c H locs 0 0 (MQ below (va_Qi (fun (r : Int32) (Ω1 : Om) => (r = R ∧ (r = 0 ∨ r = 1)) ∧ Ω1 = Ω) (oB G A) A) ([.ref p0, .int x1] : List Value).toArray s 0 0 A) (F0 m 48 ls []) := by
      intro n_6
      induction n_6 with
      | zero =>
        intro x2_5 x3_5 H locs v_48_0 v_48_1 hW hS ls hl hR
        exfalso
        omega
      | succ n_6 ih48 =>
        intro x2_5 x3_5 H locs v_48_0 v_48_1 hW hS ls hl hR
        rw [f_X9_isWalked_L48] at hR
        refine lv_iload_n hx hb dX9_isWalked_48 rfl (lv_at hl 3 rfl) ?_
        refine lv_aload_n hx hb dX9_isWalked_49 rfl (lv_at hl 0 rfl) ?_
        refine o_ViR (rest := [.int x3_5]) (As := []) (n := 0) hx hb hml hown hts hK hN hZ hW hS hA (c_X9_fields l G A Ω p0 p0_0 p0_1 p0_2 p0_3 p0_4 p0_5 p0_6 p0_7 p0_8 p0_9 p0_10 p0_11 p0_12 p0_13 hM_p0 h_p0) (inMod_o h_p0) rfl (good_V ml_X9_35 im_X9_fields se_X9_fields ini_X9 co_X9_fields) (by decide +kernel) ⟨Nat.zero_le _, Nat.zero_le _⟩ hl.1 (Nat.le_of_ble_eq_true rfl) rfl rfl dX9_isWalked_50 (fun r H locs hp hW hS => ?_)
        subst hp
        try have j_9 : 0 ≤ (f_X9_fields p0_0).toInt ∧ (f_X9_fields p0_0).toInt ≤ 12 := TI_91 hM_p0
        refine lv_icmp_ge (tgt := 126) hx hb dX9_isWalked_53 (by decide) (fun c_8 => ?_) (fun c_8 => ?_)
        · rw [if_pos c_8] at hR
          have i_8 := rle c_8
          refine lv_iload_n hx hb dX9_isWalked_126 rfl (lv_at hl 2 rfl) ?_
          subst hR
          exact W.zret (v := x2_5) hx hb hr (nb01 (by assumption)) (fun t ht hW9 => ⟨⟨x2_5, Ω, rfl, ⟨⟨rfl, (by assumption)⟩, rfl⟩, by rw [oB, ht]; exact hW⟩, hS.F ht⟩) hS.2.2 dX9_isWalked_127
        · rw [if_neg c_8] at hR
          have i_8 := rnle c_8
          refine lv_aload_n hx hb dX9_isWalked_56 rfl (lv_at hl 0 rfl) ?_
          refine o_get hx hb hts hown hK hW (inMod_o h_p0) rfl ig9 0 (by decide) fl_X9_7 rfl dX9_isWalked_57 ?_
          refine lv_bipush (v := (54 : Int32)) hx hb dX9_isWalked_60 (by decide) ?_
          refine lv_iload_n hx hb dX9_isWalked_62 rfl (lv_at hl 3 rfl) ?_
          refine lv_iadd hx hb dX9_isWalked_63 ?_
          have j_10 : (54 : Int32).toInt = 54 := by decide
          try have j_11 : ((54 : Int32) + x3_5).toInt = (54 : Int32).toInt + x3_5.toInt := fb_addI (by omega) (by omega)
          refine o_iald hx hb hK hW (inMod_a0 h_p0) (vp_in_iff.mpr ⟨by omega, by omega⟩) dX9_isWalked_64 ?_
          refine lv_istore (lv' := [(4, .int (p0_0 ((54 : Int32) + x3_5).toNatClampNeg)), (0, .ref p0), (1, .int x1), (2, .int x2_5), (3, .int x3_5)]) hx hb dX9_isWalked_65 hl (by decide) rfl (fun ls hl => ?_)
          refine lv_iload_n hx hb dX9_isWalked_67 rfl (lv_at hl 3 rfl) ?_
          refine lv_if_eq (tgt := 118) hx hb dX9_isWalked_68 (by decide) (fun c_12 => ?_) (fun c_12 => ?_)
          · rw [if_pos c_12] at hR
            have i_12 := congrArg Int32.toInt c_12
            refine lv_iconst (v := (0 : Int32)) hx hb dX9_isWalked_118 (by decide) ?_
            refine lv_istore_n (lv' := [(2, .int (0 : Int32)), (4, .int (p0_0 ((54 : Int32) + x3_5).toNatClampNeg)), (0, .ref p0), (1, .int x1), (3, .int x3_5)]) hx hb dX9_isWalked_119 rfl hl (by decide) rfl (fun ls hl => ?_)
            refine lv_iinc (v := (x3_5 + (1 : Int32))) (lv' := [(3, .int (x3_5 + (1 : Int32))), (2, .int (0 : Int32)), (4, .int (p0_0 ((54 : Int32) + x3_5).toNatClampNeg)), (0, .ref p0), (1, .int x1)]) hx hb dX9_isWalked_120 hl (k := 4) rfl rfl (by decide) rfl (fun ls hl => ?_)
            refine lv_goto (tgt := 48) hx hb dX9_isWalked_123 (by decide) ?_
            have j_13 : (1 : Int32).toInt = 1 := by decide
            try have j_14 : (x3_5 + (1 : Int32)).toInt = x3_5.toInt + (1 : Int32).toInt := fb_addI (by omega) (by omega)
            exact ih48 (0 : Int32) (x3_5 + (1 : Int32)) H locs (by omega) (by first | exact Or.inl rfl | exact Or.inr rfl | assumption) hW hS ls (lv_sub hl [3, 4, 1, 0] rfl) hR
          · rw [if_neg c_12] at hR
            have i_12 := rne c_12
            refine lv_aload_n hx hb dX9_isWalked_71 rfl (lv_at hl 1 rfl) ?_
            refine o_get hx hb hts hown hK hW (inMod_o h_p0) rfl ig9 0 (by decide) fl_X9_7 rfl dX9_isWalked_72 ?_
            refine lv_bipush (v := (18 : Int32)) hx hb dX9_isWalked_75 (by decide) ?_
            refine lv_iload_n hx hb dX9_isWalked_77 rfl (lv_at hl 4 rfl) ?_
            refine lv_iadd hx hb dX9_isWalked_78 ?_
            have j_15 : (18 : Int32).toInt = 18 := by decide
            try have j_16 : ((18 : Int32) + x3_5).toInt = (18 : Int32).toInt + x3_5.toInt := fb_addI (by omega) (by omega)
            refine o_iald hx hb hK hW (inMod_a0 h_p0) (vp_in_iff.mpr ⟨by omega, by omega⟩) dX9_isWalked_79 ?_
            refine lv_iload_n hx hb dX9_isWalked_80 rfl (lv_at hl 2 rfl) ?_
            try have j_18 : 0 ≤ (p0_0 ((18 : Int32) + x3_5).toNatClampNeg).toInt ∧ (p0_0 ((18 : Int32) + x3_5).toNatClampNeg).toInt < 6 := TI_18 hM_p0 (by omega) (by omega)
            refine lv_icmp_ne (tgt := 114) hx hb dX9_isWalked_81 (by decide) (fun c_17 => ?_) (fun c_17 => ?_)
            · rw [if_neg c_17] at hR
              have i_17 := rne c_17
              refine lv_iconst (v := (1 : Int32)) hx hb dX9_isWalked_114 (by decide) ?_
              refine lv_goto (tgt := 119) hx hb dX9_isWalked_115 (by decide) ?_
              refine lv_istore_n (lv' := [(2, .int (1 : Int32)), (4, .int (p0_0 ((54 : Int32) + x3_5).toNatClampNeg)), (0, .ref p0), (1, .int x1), (3, .int x3_5)]) hx hb dX9_isWalked_119 rfl hl (by decide) rfl (fun ls hl => ?_)
              refine lv_iinc (v := (x3_5 + (1 : Int32))) (lv' := [(3, .int (x3_5 + (1 : Int32))), (2, .int (1 : Int32)), (4, .int (p0_0 ((54 : Int32) + x3_5).toNatClampNeg)), (0, .ref p0), (1, .int x1)]) hx hb dX9_isWalked_120 hl (k := 4) rfl rfl (by decide) rfl (fun ls hl => ?_)
              refine lv_goto (tgt := 48) hx hb dX9_isWalked_123 (by decide) ?_
              have j_19 : (1 : Int32).toInt = 1 := by decide
              try have j_20 : (x3_5 + (1 : Int32)).toInt = x3_5.toInt + (1 : Int32).toInt := fb_addI (by omega) (by omega)
              exact ih48 (1 : Int32) (x3_5 + (1 : Int32)) H locs (by omega) (by first | exact Or.inl rfl | exact Or.inr rfl | assumption) hW hS ls (lv_sub hl [3, 4, 1, 0] rfl) hR
            · rw [if_pos c_17] at hR
              have i_17 := congrArg Int32.toInt c_17
              refine lv_iload hx hb dX9_isWalked_84 (lv_at hl 0 rfl) ?_
              refine lv_iconst (v := (2 : Int32)) hx hb dX9_isWalked_86 (by decide) ?_
              have j_22 : (2 : Int32).toInt = 2 := by decide
              refine lv_icmp_eq (tgt := 118) hx hb dX9_isWalked_87 (by decide) (fun c_21 => ?_) (fun c_21 => ?_)
              · rw [if_pos c_21] at hR
                have i_21 := congrArg Int32.toInt c_21
                refine lv_iconst (v := (0 : Int32)) hx hb dX9_isWalked_118 (by decide) ?_
                refine lv_istore_n (lv' := [(2, .int (0 : Int32)), (4, .int (p0_0 ((54 : Int32) + x3_5).toNatClampNeg)), (0, .ref p0), (1, .int x1), (3, .int x3_5)]) hx hb dX9_isWalked_119 rfl hl (by decide) rfl (fun ls hl => ?_)
                refine lv_iinc (v := (x3_5 + (1 : Int32))) (lv' := [(3, .int (x3_5 + (1 : Int32))), (2, .int (0 : Int32)), (4, .int (p0_0 ((54 : Int32) + x3_5).toNatClampNeg)), (0, .ref p0), (1, .int x1)]) hx hb dX9_isWalked_120 hl (k := 4) rfl rfl (by decide) rfl (fun ls hl => ?_)
                refine lv_goto (tgt := 48) hx hb dX9_isWalked_123 (by decide) ?_
                have j_23 : (1 : Int32).toInt = 1 := by decide
                try have j_24 : (x3_5 + (1 : Int32)).toInt = x3_5.toInt + (1 : Int32).toInt := fb_addI (by omega) (by omega)
                exact ih48 (0 : Int32) (x3_5 + (1 : Int32)) H locs (by omega) (by first | exact Or.inl rfl | exact Or.inr rfl | assumption) hW hS ls (lv_sub hl [3, 4, 1, 0] rfl) hR
              · rw [if_neg c_21] at hR
                have i_21 := rne c_21
                refine lv_iload hx hb dX9_isWalked_90 (lv_at hl 0 rfl) ?_
                refine lv_bipush (v := (6 : Int32)) hx hb dX9_isWalked_92 (by decide) ?_
                have j_26 : (6 : Int32).toInt = 6 := by decide
                refine lv_icmp_eq (tgt := 118) hx hb dX9_isWalked_94 (by decide) (fun c_25 => ?_) (fun c_25 => ?_)
                · rw [if_pos c_25] at hR
                  have i_25 := congrArg Int32.toInt c_25
                  refine lv_iconst (v := (0 : Int32)) hx hb dX9_isWalked_118 (by decide) ?_
                  refine lv_istore_n (lv' := [(2, .int (0 : Int32)), (4, .int (p0_0 ((54 : Int32) + x3_5).toNatClampNeg)), (0, .ref p0), (1, .int x1), (3, .int x3_5)]) hx hb dX9_isWalked_119 rfl hl (by decide) rfl (fun ls hl => ?_)
                  refine lv_iinc (v := (x3_5 + (1 : Int32))) (lv' := [(3, .int (x3_5 + (1 : Int32))), (2, .int (0 : Int32)), (4, .int (p0_0 ((54 : Int32) + x3_5).toNatClampNeg)), (0, .ref p0), (1, .int x1)]) hx hb dX9_isWalked_120 hl (k := 4) rfl rfl (by decide) rfl (fun ls hl => ?_)
                  refine lv_goto (tgt := 48) hx hb dX9_isWalked_123 (by decide) ?_
                  have j_27 : (1 : Int32).toInt = 1 := by decide
                  try have j_28 : (x3_5 + (1 : Int32)).toInt = x3_5.toInt + (1 : Int32).toInt := fb_addI (by omega) (by omega)
                  exact ih48 (0 : Int32) (x3_5 + (1 : Int32)) H locs (by omega) (by first | exact Or.inl rfl | exact Or.inr rfl | assumption) hW hS ls (lv_sub hl [3, 4, 1, 0] rfl) hR
                · rw [if_neg c_25] at hR
                  have i_25 := rne c_25
                  refine lv_iload hx hb dX9_isWalked_97 (lv_at hl 0 rfl) ?_
                  refine lv_bipush (v := (7 : Int32)) hx hb dX9_isWalked_99 (by decide) ?_
                  have j_30 : (7 : Int32).toInt = 7 := by decide
                  refine lv_icmp_eq (tgt := 118) hx hb dX9_isWalked_101 (by decide) (fun c_29 => ?_) (fun c_29 => ?_)
                  · rw [if_pos c_29] at hR
                    have i_29 := congrArg Int32.toInt c_29
                    refine lv_iconst (v := (0 : Int32)) hx hb dX9_isWalked_118 (by decide) ?_
                    refine lv_istore_n (lv' := [(2, .int (0 : Int32)), (4, .int (p0_0 ((54 : Int32) + x3_5).toNatClampNeg)), (0, .ref p0), (1, .int x1), (3, .int x3_5)]) hx hb dX9_isWalked_119 rfl hl (by decide) rfl (fun ls hl => ?_)
                    refine lv_iinc (v := (x3_5 + (1 : Int32))) (lv' := [(3, .int (x3_5 + (1 : Int32))), (2, .int (0 : Int32)), (4, .int (p0_0 ((54 : Int32) + x3_5).toNatClampNeg)), (0, .ref p0), (1, .int x1)]) hx hb dX9_isWalked_120 hl (k := 4) rfl rfl (by decide) rfl (fun ls hl => ?_)
                    refine lv_goto (tgt := 48) hx hb dX9_isWalked_123 (by decide) ?_
                    have j_31 : (1 : Int32).toInt = 1 := by decide
                    try have j_32 : (x3_5 + (1 : Int32)).toInt = x3_5.toInt + (1 : Int32).toInt := fb_addI (by omega) (by omega)
                    exact ih48 (0 : Int32) (x3_5 + (1 : Int32)) H locs (by omega) (by first | exact Or.inl rfl | exact Or.inr rfl | assumption) hW hS ls (lv_sub hl [3, 4, 1, 0] rfl) hR
                  · rw [if_neg c_29] at hR
                    have i_29 := rne c_29
                    refine lv_aload_n hx hb dX9_isWalked_104 rfl (lv_at hl 1 rfl) ?_
                    refine lv_iload_n hx hb dX9_isWalked_105 rfl (lv_at hl 4 rfl) ?_
                    refine lv_bipush (v := (12 : Int32)) hx hb dX9_isWalked_106 (by decide) ?_
                    have j_33 : (12 : Int32).toInt = 12 := by decide
                    refine o_ViR (rest := []) (As := [.int x3_5, .int (12 : Int32)]) (n := 2) hx hb hml hown hts hK hN hZ hW hS hA (c_X9_isLockOrGate l G A Ω p0 p0_0 p0_1 p0_2 p0_3 p0_4 p0_5 p0_6 p0_7 p0_8 p0_9 p0_10 p0_11 p0_12 p0_13 x3_5 (12 : Int32) hM_p0 (by omega) h_p0) (inMod_o h_p0) rfl (good_V ml_X9_128 im_X9_isLockOrGate se_X9_isLockOrGate ini_X9 co_X9_isLockOrGate) (by decide +kernel) ⟨Nat.zero_le _, Nat.zero_le _⟩ hl.1 (Nat.le_of_ble_eq_true rfl) rfl rfl dX9_isWalked_108 (fun r H locs hp hW hS => ?_)
                    obtain ⟨rfl, hz_34⟩ := hp
                    refine lv_if_ne (tgt := 118) hx hb dX9_isWalked_111 (by decide) (fun c_35 => ?_) (fun c_35 => ?_)
                    · rw [if_neg c_35] at hR
                      have i_35 := rne c_35
                      refine lv_iconst (v := (0 : Int32)) hx hb dX9_isWalked_118 (by decide) ?_
                      refine lv_istore_n (lv' := [(2, .int (0 : Int32)), (4, .int (p0_0 ((54 : Int32) + x3_5).toNatClampNeg)), (0, .ref p0), (1, .int x1), (3, .int x3_5)]) hx hb dX9_isWalked_119 rfl hl (by decide) rfl (fun ls hl => ?_)
                      refine lv_iinc (v := (x3_5 + (1 : Int32))) (lv' := [(3, .int (x3_5 + (1 : Int32))), (2, .int (0 : Int32)), (4, .int (p0_0 ((54 : Int32) + x3_5).toNatClampNeg)), (0, .ref p0), (1, .int x1)]) hx hb dX9_isWalked_120 hl (k := 4) rfl rfl (by decide) rfl (fun ls hl => ?_)
                      refine lv_goto (tgt := 48) hx hb dX9_isWalked_123 (by decide) ?_
                      have j_36 : (1 : Int32).toInt = 1 := by decide
                      try have j_37 : (x3_5 + (1 : Int32)).toInt = x3_5.toInt + (1 : Int32).toInt := fb_addI (by omega) (by omega)
                      exact ih48 (0 : Int32) (x3_5 + (1 : Int32)) H locs (by omega) (by first | exact Or.inl rfl | exact Or.inr rfl | assumption) hW hS ls (lv_sub hl [3, 4, 1, 0] rfl) hR
                    · rw [if_pos c_35] at hR
                      have i_35 := congrArg Int32.toInt c_35
                      refine lv_iconst (v := (1 : Int32)) hx hb dX9_isWalked_114 (by decide) ?_
                      refine lv_goto (tgt := 119) hx hb dX9_isWalked_115 (by decide) ?_
                      refine lv_istore_n (lv' := [(2, .int (1 : Int32)), (4, .int (p0_0 ((54 : Int32) + x3_5).toNatClampNeg)), (0, .ref p0), (1, .int x1), (3, .int x3_5)]) hx hb dX9_isWalked_119 rfl hl (by decide) rfl (fun ls hl => ?_)
                      refine lv_iinc (v := (x3_5 + (1 : Int32))) (lv' := [(3, .int (x3_5 + (1 : Int32))), (2, .int (1 : Int32)), (4, .int (p0_0 ((54 : Int32) + x3_5).toNatClampNeg)), (0, .ref p0), (1, .int x1)]) hx hb dX9_isWalked_120 hl (k := 4) rfl rfl (by decide) rfl (fun ls hl => ?_)
                      refine lv_goto (tgt := 48) hx hb dX9_isWalked_123 (by decide) ?_
                      have j_38 : (1 : Int32).toInt = 1 := by decide
                      try have j_39 : (x3_5 + (1 : Int32)).toInt = x3_5.toInt + (1 : Int32).toInt := fb_addI (by omega) (by omega)
                      exact ih48 (1 : Int32) (x3_5 + (1 : Int32)) H locs (by omega) (by first | exact Or.inl rfl | exact Or.inr rfl | assumption) hW hS ls (lv_sub hl [3, 4, 1, 0] rfl) hR
    exact L48 4000 s0_4 (0 : Int32) H locs (by omega) (by first | exact Or.inl rfl | exact Or.inr rfl | assumption) hW hS ls (lv_sub hl [2, 3, 1, 0] rfl) hR
  have J44 : ∀ (H : Heap) (locs : List Loc), oW G A Ω H → va_S A s.heap H locs → ∀ ls : Array Slot, lv_has ls 5 [(0, .ref p0), (1, .int x1)] → (f_X9_isWalked_J44 p0_0 x1) = R → W p l e (headSpec (wz yX9_isWalked cX9_isWalked 5 (some .boolean)) ({ frames := 2, cells := 0, slots := 0, locals := 44 } : Room)).room s m ([.ref p0, .int x1] : List Value).toArray below meth c H locs 0 0 (MQ below (va_Qi (fun (r : Int32) (Ω1 : Om) => (r = R ∧ (r = 0 ∨ r = 1)) ∧ Ω1 = Ω) (oB G A) A) ([.ref p0, .int x1] : List Value).toArray s 0 0 A) (F0 m 44 ls []) := by
    intro H locs hW hS ls hl hR
    rw [f_X9_isWalked_J44] at hR
    refine lv_iconst (v := (0 : Int32)) hx hb dX9_isWalked_44 (by decide) ?_
    exact J45 (0 : Int32) H locs (by first | exact Or.inl rfl | exact Or.inr rfl | assumption) hW hS ls (lv_sub hl [0, 1] rfl) hR
  try have j_42 : (f_X9_goesTo p0_0 (p0_0 ((0 : Int32) + x1).toNatClampNeg)).toInt = -9 ∨ (0 ≤ (f_X9_goesTo p0_0 (p0_0 ((0 : Int32) + x1).toNatClampNeg)).toInt ∧ (f_X9_goesTo p0_0 (p0_0 ((0 : Int32) + x1).toNatClampNeg)).toInt < 6) ∨ (100 ≤ (f_X9_goesTo p0_0 (p0_0 ((0 : Int32) + x1).toNatClampNeg)).toInt ∧ (f_X9_goesTo p0_0 (p0_0 ((0 : Int32) + x1).toNatClampNeg)).toInt < 104) := R_goesTo hM_p0 _
  refine lv_icmp_ne (tgt := 44) hx hb dX9_isWalked_13 (by decide) (fun c_41 => ?_) (fun c_41 => ?_)
  · rw [if_neg c_41] at hR
    have i_41 := rne c_41
    exact J44 H locs hW hS ls (lv_sub hl [0, 1] rfl) hR
  · rw [if_pos c_41] at hR
    have i_41 := congrArg Int32.toInt c_41
    refine lv_aload_n hx hb dX9_isWalked_16 rfl (lv_at hl 0 rfl) ?_
    refine lv_bipush (v := (36 : Int32)) hx hb dX9_isWalked_17 (by decide) ?_
    refine lv_iload_n hx hb dX9_isWalked_19 rfl (lv_at hl 1 rfl) ?_
    have j_43 : (36 : Int32).toInt = 36 := by decide
    refine o_ViR (rest := []) (As := [.int (36 : Int32), .int x1]) (n := 2) hx hb hml hown hts hK hN hZ hW hS hA (c_X9_isLocked l G A Ω p0 p0_0 p0_1 p0_2 p0_3 p0_4 p0_5 p0_6 p0_7 p0_8 p0_9 p0_10 p0_11 p0_12 p0_13 (36 : Int32) x1 hM_p0 (by omega) (by omega) h_p0) (inMod_o h_p0) rfl (good_V ml_X9_85 im_X9_isLocked se_X9_isLocked ini_X9 co_X9_isLocked) (by decide +kernel) ⟨Nat.zero_le _, Nat.zero_le _⟩ hl.1 (Nat.le_of_ble_eq_true rfl) rfl rfl dX9_isWalked_20 (fun r H locs hp hW hS => ?_)
    obtain ⟨rfl, hz_44⟩ := hp
    refine lv_if_ne (tgt := 44) hx hb dX9_isWalked_23 (by decide) (fun c_45 => ?_) (fun c_45 => ?_)
    · rw [if_neg c_45] at hR
      have i_45 := rne c_45
      exact J44 H locs hW hS ls (lv_sub hl [0, 1] rfl) hR
    · rw [if_pos c_45] at hR
      have i_45 := congrArg Int32.toInt c_45
      refine lv_aload_n hx hb dX9_isWalked_26 rfl (lv_at hl 0 rfl) ?_
      refine o_get hx hb hts hown hK hW (inMod_o h_p0) rfl ig9 0 (by decide) fl_X9_7 rfl dX9_isWalked_27 ?_
      refine lv_bipush (v := (12 : Int32)) hx hb dX9_isWalked_30 (by decide) ?_
      refine lv_iload_n hx hb dX9_isWalked_32 rfl (lv_at hl 1 rfl) ?_
      refine lv_iadd hx hb dX9_isWalked_33 ?_
      have j_46 : (12 : Int32).toInt = 12 := by decide
      try have j_47 : ((12 : Int32) + x1).toInt = (12 : Int32).toInt + x1.toInt := fb_addI (by omega) (by omega)
      refine o_iald hx hb hK hW (inMod_a0 h_p0) (vp_in_iff.mpr ⟨by omega, by omega⟩) dX9_isWalked_34 ?_
      refine lv_bipush (v := (-9 : Int32)) hx hb dX9_isWalked_35 (by decide) ?_
      try have j_49 : (p0_0 ((12 : Int32) + x1).toNatClampNeg).toInt = -9 ∨ (0 ≤ (p0_0 ((12 : Int32) + x1).toNatClampNeg).toInt ∧ (p0_0 ((12 : Int32) + x1).toNatClampNeg).toInt < 12) := TI_12 hM_p0 (by omega) (by omega)
      have j_50 : (-9 : Int32).toInt = -9 := by decide
      refine lv_icmp_ne (tgt := 44) hx hb dX9_isWalked_37 (by decide) (fun c_48 => ?_) (fun c_48 => ?_)
      · rw [if_neg c_48] at hR
        have i_48 := rne c_48
        exact J44 H locs hW hS ls (lv_sub hl [0, 1] rfl) hR
      · rw [if_pos c_48] at hR
        have i_48 := congrArg Int32.toInt c_48
        refine lv_iconst (v := (1 : Int32)) hx hb dX9_isWalked_40 (by decide) ?_
        refine lv_goto (tgt := 45) hx hb dX9_isWalked_41 (by decide) ?_
        have j_51 : (1 : Int32).toInt = 1 := by decide
        exact J45 (1 : Int32) H locs (by first | exact Or.inl rfl | exact Or.inr rfl | assumption) hW hS ls (lv_sub hl [0, 1] rfl) hR
set_option maxHeartbeats 4000000 in
set_option maxRecDepth 100000 in
theorem c_X9_bitsBy (l : Launch) (G : Gm) (A : Nat → Prop) (Ω : Om) (p0 : Nat) (p0_0 : Fn) (p0_1 : Fn) (p0_2 : Fn) (p0_3 : Fn) (p0_4 : Int32) (p0_5 : Fn) (p0_6 : Fn) (p0_7 : Fn) (p0_8 : Int32) (p0_9 : Int32) (p0_10 : Int32) (p0_11 : Int32) (p0_12 : Int32) (p0_13 : Int32) (x1 : Int32) (x2 : Int32) (hM_p0 : ToldInv p0_0) (h_p0 : inMod G Ω p0 p0_0 p0_1 p0_2 p0_3 p0_4 p0_5 p0_6 p0_7 p0_8 p0_9 p0_10 p0_11 p0_12 p0_13) : Met l yX9_bitsBy (wz yX9_bitsBy cX9_bitsBy 5 (some .int)) ({ frames := 2, cells := 0, slots := 0, locals := 44 } : Room) (va_Pc [.ref p0, .int x1, .int x2] (oS G A Ω)) (va_Qi (fun (r : Int32) (Ω1 : Om) => r = (f_X9_bitsBy p0_0 x1 x2) ∧ Ω1 = Ω) (oB G A) A) 0 0 A := by
  refine Met.ofW (cc := cX9_bitsBy) (maxL := 5) (ret := (some .int)) (by decide) rfl ?_
  intro p e s m args below meth c s₁ B hml hv
  obtain ⟨rfl, hW, hK, hN, hZ⟩ := hv
  have hx := B.exec
  have hb := B.bytes
  have hr := B.returns
  have hts : ∀ w ∈ gt, w.before _ s = true := fun w hw => atoms_spec (ws := wz yX9_bitsBy cX9_bitsBy 5 (some .int)) B.pre w (List.mem_cons_of_mem _ hw)
  have hown : s.vm.findClass RX9 = some m.cls := findClass_of_methodNamed B.named
  have hlocks := B.notSynchronized
  have hA : ∀ q, A q → A q := fun _ h => h
  have hS : va_S A s.heap s.heap [] := va_S.rf
  have hS0 := hS
  have hl := lv_entry ([.ref p0, .int x1, .int x2]) (n := 5) (Nat.le_of_ble_eq_true rfl)
  rw [lg_entry_eq]
  generalize (lg_sl ([.ref p0, .int x1, .int x2]) ++ List.replicate (5 - (lg_sl ([.ref p0, .int x1, .int x2])).length) Slot.unset).toArray = ls at hl ⊢
  have hl : lv_has ls 5 [(0, .ref p0), (1, .int x1), (2, .int x2)] := hl
  generalize hR : (f_X9_bitsBy p0_0 x1 x2) = R
  rw [f_X9_bitsBy] at hR
  refine lv_iconst (v := (0 : Int32)) hx hb dX9_bitsBy_0 (by decide) ?_
  refine lv_istore_n (lv' := [(3, .int (0 : Int32)), (0, .ref p0), (1, .int x1), (2, .int x2)]) hx hb dX9_bitsBy_1 rfl hl (by decide) rfl (fun ls hl => ?_)
  refine lv_iconst (v := (0 : Int32)) hx hb dX9_bitsBy_2 (by decide) ?_
  refine lv_istore (lv' := [(4, .int (0 : Int32)), (3, .int (0 : Int32)), (0, .ref p0), (1, .int x1), (2, .int x2)]) hx hb dX9_bitsBy_3 hl (by decide) rfl (fun ls hl => ?_)
  have L5 : ∀ (n_2 : Nat) (x3_1 : Int32) (x4_1 : Int32) (H : Heap) (locs : List Loc), (0 ≤ x4_1.toInt ∧ x4_1.toInt ≤ 12 ∧ 12 - x4_1.toInt < n_2) → oW G A Ω H → va_S A s.heap H locs → ∀ ls : Array Slot, lv_has ls 5 [(0, .ref p0), (1, .int x1), (2, .int x2), (3, .int x3_1), (4, .int x4_1)] → (f_X9_bitsBy_L5 p0_0 x1 x2 n_2 x3_1 x4_1) = R → W p l e (headSpec (wz yX9_bitsBy cX9_bitsBy 5 (some .int)) ({ frames := 2, cells := 0, slots := 0, locals := 44 } : Room)).room s m ([.ref p0, .int x1, .int x2] : List Value).toArray below meth c H locs 0 0 (MQ below (va_Qi (fun (r : Int32) (Ω1 : Om) => r = R ∧ Ω1 = Ω) (oB G A) A) ([.ref p0, .int x1, .int x2] : List Value).toArray s 0 0 A) (F0 m 5 ls []) := by
    intro n_2
    induction n_2 with
    | zero =>
      intro x3_1 x4_1 H locs v_5_0 hW hS ls hl hR
      exfalso
      omega
    | succ n_2 ih5 =>
      intro x3_1 x4_1 H locs v_5_0 hW hS ls hl hR
      rw [f_X9_bitsBy_L5] at hR
      refine lv_iload hx hb dX9_bitsBy_5 (lv_at hl 4 rfl) ?_
      refine lv_aload_n hx hb dX9_bitsBy_7 rfl (lv_at hl 0 rfl) ?_
      refine o_ViR (rest := [.int x4_1]) (As := []) (n := 0) hx hb hml hown hts hK hN hZ hW hS hA (c_X9_fields l G A Ω p0 p0_0 p0_1 p0_2 p0_3 p0_4 p0_5 p0_6 p0_7 p0_8 p0_9 p0_10 p0_11 p0_12 p0_13 hM_p0 h_p0) (inMod_o h_p0) rfl (good_V ml_X9_35 im_X9_fields se_X9_fields ini_X9 co_X9_fields) (by decide +kernel) ⟨Nat.zero_le _, Nat.zero_le _⟩ hl.1 (Nat.le_of_ble_eq_true rfl) rfl rfl dX9_bitsBy_8 (fun r H locs hp hW hS => ?_)
      subst hp
      try have j_5 : 0 ≤ (f_X9_fields p0_0).toInt ∧ (f_X9_fields p0_0).toInt ≤ 12 := TI_91 hM_p0
      refine lv_icmp_ge (tgt := 71) hx hb dX9_bitsBy_11 (by decide) (fun c_4 => ?_) (fun c_4 => ?_)
      · rw [if_pos c_4] at hR
        have i_4 := rle c_4
        refine lv_iload_n hx hb dX9_bitsBy_71 rfl (lv_at hl 3 rfl) ?_
        subst hR
        exact W.iret (v := x3_1) hx hb hr (fun t ht hW9 => ⟨⟨x3_1, Ω, rfl, ⟨rfl, rfl⟩, by rw [oB, ht]; exact hW⟩, hS.F ht⟩) hS.2.2 dX9_bitsBy_72
      · rw [if_neg c_4] at hR
        have i_4 := rnle c_4
        refine lv_aload_n hx hb dX9_bitsBy_14 rfl (lv_at hl 0 rfl) ?_
        refine o_get hx hb hts hown hK hW (inMod_o h_p0) rfl ig9 0 (by decide) fl_X9_7 rfl dX9_bitsBy_15 ?_
        refine lv_bipush (v := (18 : Int32)) hx hb dX9_bitsBy_18 (by decide) ?_
        refine lv_iload hx hb dX9_bitsBy_20 (lv_at hl 4 rfl) ?_
        refine lv_iadd hx hb dX9_bitsBy_22 ?_
        have j_6 : (18 : Int32).toInt = 18 := by decide
        try have j_7 : ((18 : Int32) + x4_1).toInt = (18 : Int32).toInt + x4_1.toInt := fb_addI (by omega) (by omega)
        refine o_iald hx hb hK hW (inMod_a0 h_p0) (vp_in_iff.mpr ⟨by omega, by omega⟩) dX9_bitsBy_23 ?_
        refine lv_iload_n hx hb dX9_bitsBy_24 rfl (lv_at hl 1 rfl) ?_
        try have j_9 : 0 ≤ (p0_0 ((18 : Int32) + x4_1).toNatClampNeg).toInt ∧ (p0_0 ((18 : Int32) + x4_1).toNatClampNeg).toInt < 6 := TI_18 hM_p0 (by omega) (by omega)
        refine lv_icmp_ne (tgt := 65) hx hb dX9_bitsBy_25 (by decide) (fun c_8 => ?_) (fun c_8 => ?_)
        · rw [if_neg c_8] at hR
          have i_8 := rne c_8
          refine lv_iinc (v := (x4_1 + (1 : Int32))) (lv' := [(4, .int (x4_1 + (1 : Int32))), (0, .ref p0), (1, .int x1), (2, .int x2), (3, .int x3_1)]) hx hb dX9_bitsBy_65 hl (k := 4) rfl rfl (by decide) rfl (fun ls hl => ?_)
          refine lv_goto (tgt := 5) hx hb dX9_bitsBy_68 (by decide) ?_
          have j_10 : (1 : Int32).toInt = 1 := by decide
          try have j_11 : (x4_1 + (1 : Int32)).toInt = x4_1.toInt + (1 : Int32).toInt := fb_addI (by omega) (by omega)
          exact ih5 x3_1 (x4_1 + (1 : Int32)) H locs (by omega) hW hS ls (lv_sub hl [1, 2, 3, 4, 0] rfl) hR
        · rw [if_pos c_8] at hR
          have i_8 := congrArg Int32.toInt c_8
          refine lv_aload_n hx hb dX9_bitsBy_28 rfl (lv_at hl 0 rfl) ?_
          refine o_get hx hb hts hown hK hW (inMod_o h_p0) rfl ig9 0 (by decide) fl_X9_7 rfl dX9_bitsBy_29 ?_
          refine lv_bipush (v := (54 : Int32)) hx hb dX9_bitsBy_32 (by decide) ?_
          refine lv_iload hx hb dX9_bitsBy_34 (lv_at hl 4 rfl) ?_
          refine lv_iadd hx hb dX9_bitsBy_36 ?_
          have j_12 : (54 : Int32).toInt = 54 := by decide
          try have j_13 : ((54 : Int32) + x4_1).toInt = (54 : Int32).toInt + x4_1.toInt := fb_addI (by omega) (by omega)
          refine o_iald hx hb hK hW (inMod_a0 h_p0) (vp_in_iff.mpr ⟨by omega, by omega⟩) dX9_bitsBy_37 ?_
          have j_15 : (0 : Int32).toInt = 0 := by decide
          refine lv_if_ne (tgt := 65) hx hb dX9_bitsBy_38 (by decide) (fun c_14 => ?_) (fun c_14 => ?_)
          · rw [if_neg c_14] at hR
            have i_14 := rne c_14
            refine lv_iinc (v := (x4_1 + (1 : Int32))) (lv' := [(4, .int (x4_1 + (1 : Int32))), (0, .ref p0), (1, .int x1), (2, .int x2), (3, .int x3_1)]) hx hb dX9_bitsBy_65 hl (k := 4) rfl rfl (by decide) rfl (fun ls hl => ?_)
            refine lv_goto (tgt := 5) hx hb dX9_bitsBy_68 (by decide) ?_
            have j_16 : (1 : Int32).toInt = 1 := by decide
            try have j_17 : (x4_1 + (1 : Int32)).toInt = x4_1.toInt + (1 : Int32).toInt := fb_addI (by omega) (by omega)
            exact ih5 x3_1 (x4_1 + (1 : Int32)) H locs (by omega) hW hS ls (lv_sub hl [1, 2, 3, 4, 0] rfl) hR
          · rw [if_pos c_14] at hR
            have i_14 := congrArg Int32.toInt c_14
            refine lv_iload_n hx hb dX9_bitsBy_41 rfl (lv_at hl 2 rfl) ?_
            have J56 : ∀ (H : Heap) (locs : List Loc), oW G A Ω H → va_S A s.heap H locs → ∀ ls : Array Slot, lv_has ls 5 [(0, .ref p0), (1, .int x1), (2, .int x2), (3, .int x3_1), (4, .int x4_1)] → (f_X9_bitsBy_J56 p0_0 x3_1 x4_1 (f_X9_bitsBy_L5 p0_0 x1 x2 n_2)) = R → W p l e (headSpec (wz yX9_bitsBy cX9_bitsBy 5 (some .int)) ({ frames := 2, cells := 0, slots := 0, locals := 44 } : Room)).room s m ([.ref p0, .int x1, .int x2] : List Value).toArray below meth c H locs 0 0 (MQ below (va_Qi (fun (r : Int32) (Ω1 : Om) => r = R ∧ Ω1 = Ω) (oB G A) A) ([.ref p0, .int x1, .int x2] : List Value).toArray s 0 0 A) (F0 m 56 ls []) := by
              intro H locs hW hS ls hl hR
              rw [f_X9_bitsBy_J56] at hR
              refine lv_iload_n hx hb dX9_bitsBy_56 rfl (lv_at hl 3 rfl) ?_
              refine lv_aload_n hx hb dX9_bitsBy_57 rfl (lv_at hl 0 rfl) ?_
              refine lv_iload hx hb dX9_bitsBy_58 (lv_at hl 4 rfl) ?_
              refine o_ViR (rest := [.int x3_1]) (As := [.int x4_1]) (n := 1) hx hb hml hown hts hK hN hZ hW hS hA (c_X9_bitsOf l G A Ω p0 p0_0 p0_1 p0_2 p0_3 p0_4 p0_5 p0_6 p0_7 p0_8 p0_9 p0_10 p0_11 p0_12 p0_13 x4_1 hM_p0 (by omega) h_p0) (inMod_o h_p0) rfl (good_V ml_X9_131 im_X9_bitsOf se_X9_bitsOf ini_X9 co_X9_bitsOf) (by decide +kernel) ⟨Nat.zero_le _, Nat.zero_le _⟩ hl.1 (Nat.le_of_ble_eq_true rfl) rfl rfl dX9_bitsBy_60 (fun r H locs hp hW hS => ?_)
              subst hp
              refine lv_ior hx hb dX9_bitsBy_63 ?_
              refine lv_istore_n (lv' := [(3, .int (x3_1 ||| (f_X9_bitsOf p0_0 x4_1))), (0, .ref p0), (1, .int x1), (2, .int x2), (4, .int x4_1)]) hx hb dX9_bitsBy_64 rfl hl (by decide) rfl (fun ls hl => ?_)
              refine lv_iinc (v := (x4_1 + (1 : Int32))) (lv' := [(4, .int (x4_1 + (1 : Int32))), (3, .int (x3_1 ||| (f_X9_bitsOf p0_0 x4_1))), (0, .ref p0), (1, .int x1), (2, .int x2)]) hx hb dX9_bitsBy_65 hl (k := 4) rfl rfl (by decide) rfl (fun ls hl => ?_)
              refine lv_goto (tgt := 5) hx hb dX9_bitsBy_68 (by decide) ?_
              have j_20 : (1 : Int32).toInt = 1 := by decide
              try have j_21 : (x4_1 + (1 : Int32)).toInt = x4_1.toInt + (1 : Int32).toInt := fb_addI (by omega) (by omega)
              exact ih5 (x3_1 ||| (f_X9_bitsOf p0_0 x4_1)) (x4_1 + (1 : Int32)) H locs (by omega) hW hS ls (lv_sub hl [2, 3, 4, 1, 0] rfl) hR
            refine lv_if_eq (tgt := 56) hx hb dX9_bitsBy_42 (by decide) (fun c_22 => ?_) (fun c_22 => ?_)
            · rw [if_pos c_22] at hR
              have i_22 := congrArg Int32.toInt c_22
              exact J56 H locs hW hS ls (lv_sub hl [0, 1, 2, 3, 4] rfl) hR
            · rw [if_neg c_22] at hR
              have i_22 := rne c_22
              refine lv_aload_n hx hb dX9_bitsBy_45 rfl (lv_at hl 0 rfl) ?_
              refine lv_iload hx hb dX9_bitsBy_46 (lv_at hl 4 rfl) ?_
              refine lv_bipush (v := (6 : Int32)) hx hb dX9_bitsBy_48 (by decide) ?_
              have j_23 : (6 : Int32).toInt = 6 := by decide
              refine o_ViR (rest := []) (As := [.int x4_1, .int (6 : Int32)]) (n := 2) hx hb hml hown hts hK hN hZ hW hS hA (c_X9_isLockOrGate l G A Ω p0 p0_0 p0_1 p0_2 p0_3 p0_4 p0_5 p0_6 p0_7 p0_8 p0_9 p0_10 p0_11 p0_12 p0_13 x4_1 (6 : Int32) hM_p0 (by omega) h_p0) (inMod_o h_p0) rfl (good_V ml_X9_128 im_X9_isLockOrGate se_X9_isLockOrGate ini_X9 co_X9_isLockOrGate) (by decide +kernel) ⟨Nat.zero_le _, Nat.zero_le _⟩ hl.1 (Nat.le_of_ble_eq_true rfl) rfl rfl dX9_bitsBy_50 (fun r H locs hp hW hS => ?_)
              obtain ⟨rfl, hz_24⟩ := hp
              refine lv_if_ne (tgt := 65) hx hb dX9_bitsBy_53 (by decide) (fun c_25 => ?_) (fun c_25 => ?_)
              · rw [if_neg c_25] at hR
                have i_25 := rne c_25
                refine lv_iinc (v := (x4_1 + (1 : Int32))) (lv' := [(4, .int (x4_1 + (1 : Int32))), (0, .ref p0), (1, .int x1), (2, .int x2), (3, .int x3_1)]) hx hb dX9_bitsBy_65 hl (k := 4) rfl rfl (by decide) rfl (fun ls hl => ?_)
                refine lv_goto (tgt := 5) hx hb dX9_bitsBy_68 (by decide) ?_
                have j_26 : (1 : Int32).toInt = 1 := by decide
                try have j_27 : (x4_1 + (1 : Int32)).toInt = x4_1.toInt + (1 : Int32).toInt := fb_addI (by omega) (by omega)
                exact ih5 x3_1 (x4_1 + (1 : Int32)) H locs (by omega) hW hS ls (lv_sub hl [1, 2, 3, 4, 0] rfl) hR
              · rw [if_pos c_25] at hR
                have i_25 := congrArg Int32.toInt c_25
                exact J56 H locs hW hS ls (lv_sub hl [0, 1, 2, 3, 4] rfl) hR
  have j_28 : (0 : Int32).toInt = 0 := by decide
  exact L5 4000 (0 : Int32) (0 : Int32) s.heap [] (by omega) hW hS ls (lv_sub hl [2, 3, 4, 1, 0] rfl) hR
set_option maxHeartbeats 4000000 in
set_option maxRecDepth 100000 in
theorem c_X9_walk (l : Launch) (G : Gm) (A : Nat → Prop) (Ω : Om) (p0 : Nat) (p0_0 : Fn) (p0_1 : Fn) (p0_2 : Fn) (p0_3 : Fn) (p0_4 : Int32) (p0_5 : Fn) (p0_6 : Fn) (p0_7 : Fn) (p0_8 : Int32) (p0_9 : Int32) (p0_10 : Int32) (p0_11 : Int32) (p0_12 : Int32) (p0_13 : Int32) (x1 : Int32) (x2 : Int32) (hM_p0 : ToldInv p0_0) (h_p0 : inMod G Ω p0 p0_0 p0_1 p0_2 p0_3 p0_4 p0_5 p0_6 p0_7 p0_8 p0_9 p0_10 p0_11 p0_12 p0_13) : Met l yX9_walk (wz yX9_walk cX9_walk 8 (some .int)) ({ frames := 3, cells := 0, slots := 0, locals := 68 } : Room) (va_Pc [.ref p0, .int x1, .int x2] (oS G A Ω)) (va_Qi (fun (r : Int32) (Ω1 : Om) => r = (f_X9_walk p0_0 p0_2 x1 x2) ∧ Ω1 = Ω) (oB G A) A) 0 0 A := by
  refine Met.ofW (cc := cX9_walk) (maxL := 8) (ret := (some .int)) (by decide) rfl ?_
  intro p e s m args below meth c s₁ B hml hv
  obtain ⟨rfl, hW, hK, hN, hZ⟩ := hv
  have hx := B.exec
  have hb := B.bytes
  have hr := B.returns
  have hts : ∀ w ∈ gt, w.before _ s = true := fun w hw => atoms_spec (ws := wz yX9_walk cX9_walk 8 (some .int)) B.pre w (List.mem_cons_of_mem _ hw)
  have hown : s.vm.findClass RX9 = some m.cls := findClass_of_methodNamed B.named
  have hlocks := B.notSynchronized
  have hA : ∀ q, A q → A q := fun _ h => h
  have hS : va_S A s.heap s.heap [] := va_S.rf
  have hS0 := hS
  have hl := lv_entry ([.ref p0, .int x1, .int x2]) (n := 8) (Nat.le_of_ble_eq_true rfl)
  rw [lg_entry_eq]
  generalize (lg_sl ([.ref p0, .int x1, .int x2]) ++ List.replicate (8 - (lg_sl ([.ref p0, .int x1, .int x2])).length) Slot.unset).toArray = ls at hl ⊢
  have hl : lv_has ls 8 [(0, .ref p0), (1, .int x1), (2, .int x2)] := hl
  generalize hR : (f_X9_walk p0_0 p0_2 x1 x2) = R
  rw [f_X9_walk] at hR
  refine lv_iload_n hx hb dX9_walk_0 rfl (lv_at hl 1 rfl) ?_
  refine lv_iconst (v := (-1 : Int32)) hx hb dX9_walk_1 (by decide) ?_
  have j_2 : (-1 : Int32).toInt = -1 := by decide
  refine lv_icmp_lt (tgt := 14) hx hb dX9_walk_2 (by decide) (fun c_1 => ?_) (fun c_1 => ?_)
  · rw [if_pos c_1] at hR
    have i_1 := rlt c_1
    refine lv_iconst (v := (-1 : Int32)) hx hb dX9_walk_14 (by decide) ?_
    subst hR
    exact W.iret (v := (-1 : Int32)) hx hb hr (fun t ht hW9 => ⟨⟨(-1 : Int32), Ω, rfl, ⟨rfl, rfl⟩, by rw [oB, ht]; exact hW⟩, hS.F ht⟩) hS.2.2 dX9_walk_15
  · rw [if_neg c_1] at hR
    have i_1 := rnlt c_1
    refine lv_iload_n hx hb dX9_walk_5 rfl (lv_at hl 2 rfl) ?_
    refine lv_iconst (v := (0 : Int32)) hx hb dX9_walk_6 (by decide) ?_
    refine lv_iconst (v := (2 : Int32)) hx hb dX9_walk_7 (by decide) ?_
    have j_3 : (0 : Int32).toInt = 0 := by decide
    have j_4 : (2 : Int32).toInt = 2 := by decide
    refine o_SiR (rest := []) (As := [.int x2, .int (0 : Int32), .int (2 : Int32)]) (n := 3) hx hb hml hown hts hK hN hZ hW hS hA (c_X9_in l G A Ω x2 (0 : Int32) (2 : Int32)) ml_X9_39 st_X9_in ini_X9 co_X9_in (by decide +kernel) ⟨Nat.zero_le _, Nat.zero_le _⟩ hl.1 (Nat.le_of_ble_eq_true rfl) rfl rfl dX9_walk_8 (fun r H locs hp hW hS => ?_)
    obtain ⟨rfl, hz_5⟩ := hp
    refine lv_if_ne (tgt := 16) hx hb dX9_walk_11 (by decide) (fun c_6 => ?_) (fun c_6 => ?_)
    · rw [if_neg c_6] at hR
      have i_6 := rne c_6
      have b_c_6 := rIN c_6
      refine lv_iconst (v := (0 : Int32)) hx hb dX9_walk_16 (by decide) ?_
      refine lv_istore_n (lv' := [(3, .int (0 : Int32)), (0, .ref p0), (1, .int x1), (2, .int x2)]) hx hb dX9_walk_17 rfl hl (by decide) rfl (fun ls hl => ?_)
      refine lv_iconst (v := (0 : Int32)) hx hb dX9_walk_18 (by decide) ?_
      refine lv_istore (lv' := [(4, .int (0 : Int32)), (3, .int (0 : Int32)), (0, .ref p0), (1, .int x1), (2, .int x2)]) hx hb dX9_walk_19 hl (by decide) rfl (fun ls hl => ?_)
      have L21 : ∀ (n_8 : Nat) (x3_7 : Int32) (x4_7 : Int32) (H : Heap) (locs : List Loc), (0 ≤ x4_7.toInt ∧ x4_7.toInt ≤ 6 ∧ 6 - x4_7.toInt < n_8) → oW G A Ω H → va_S A s.heap H locs → ∀ ls : Array Slot, lv_has ls 8 [(0, .ref p0), (1, .int x1), (2, .int x2), (3, .int x3_7), (4, .int x4_7)] → (f_X9_walk_L21 p0_0 p0_2 x1 x2 n_8 x3_7 x4_7) = R → W p l e (headSpec (wz yX9_walk cX9_walk 8 (some .int)) ({ frames := 3, cells := 0, slots := 0, locals := 68 } : Room)).room s m ([.ref p0, .int x1, .int x2] : List Value).toArray below meth c H locs 0 0 (MQ below (va_Qi (fun (r : Int32) (Ω1 : Om) => r = R ∧ Ω1 = Ω) (oB G A) A) ([.ref p0, .int x1, .int x2] : List Value).toArray s 0 0 A) (F0 m 21 ls []) := by
        intro n_8
        induction n_8 with
        | zero =>
          intro x3_7 x4_7 H locs v_21_0 hW hS ls hl hR
          exfalso
          omega
        | succ n_8 ih21 =>
          intro x3_7 x4_7 H locs v_21_0 hW hS ls hl hR
          rw [f_X9_walk_L21] at hR
          refine lv_iload hx hb dX9_walk_21 (lv_at hl 4 rfl) ?_
          refine lv_aload_n hx hb dX9_walk_23 rfl (lv_at hl 0 rfl) ?_
          refine o_ViR (rest := [.int x4_7]) (As := []) (n := 0) hx hb hml hown hts hK hN hZ hW hS hA (c_X9_registers l G A Ω p0 p0_0 p0_1 p0_2 p0_3 p0_4 p0_5 p0_6 p0_7 p0_8 p0_9 p0_10 p0_11 p0_12 p0_13 hM_p0 h_p0) (inMod_o h_p0) rfl (good_V ml_X9_43 im_X9_registers se_X9_registers ini_X9 co_X9_registers) (by decide +kernel) ⟨Nat.zero_le _, Nat.zero_le _⟩ hl.1 (Nat.le_of_ble_eq_true rfl) rfl rfl dX9_walk_24 (fun r H locs hp hW hS => ?_)
          subst hp
          try have j_11 : 0 ≤ (f_X9_registers p0_0).toInt ∧ (f_X9_registers p0_0).toInt ≤ 6 := TI_90 hM_p0
          refine lv_icmp_ge (tgt := 145) hx hb dX9_walk_27 (by decide) (fun c_10 => ?_) (fun c_10 => ?_)
          · rw [if_pos c_10] at hR
            have i_10 := rle c_10
            refine lv_iload_n hx hb dX9_walk_145 rfl (lv_at hl 1 rfl) ?_
            refine lv_if_ge (tgt := 153) hx hb dX9_walk_146 (by decide) (fun c_12 => ?_) (fun c_12 => ?_)
            · rw [if_pos c_12] at hR
              have i_12 := rle c_12
              refine lv_bipush (v := (-9 : Int32)) hx hb dX9_walk_153 (by decide) ?_
              subst hR
              exact W.iret (v := (-9 : Int32)) hx hb hr (fun t ht hW9 => ⟨⟨(-9 : Int32), Ω, rfl, ⟨rfl, rfl⟩, by rw [oB, ht]; exact hW⟩, hS.F ht⟩) hS.2.2 dX9_walk_155
            · rw [if_neg c_12] at hR
              have i_12 := rnle c_12
              refine lv_iload_n hx hb dX9_walk_149 rfl (lv_at hl 3 rfl) ?_
              refine lv_goto (tgt := 155) hx hb dX9_walk_150 (by decide) ?_
              subst hR
              exact W.iret (v := x3_7) hx hb hr (fun t ht hW9 => ⟨⟨x3_7, Ω, rfl, ⟨rfl, rfl⟩, by rw [oB, ht]; exact hW⟩, hS.F ht⟩) hS.2.2 dX9_walk_155
          · rw [if_neg c_10] at hR
            have i_10 := rnle c_10
            refine lv_aload_n hx hb dX9_walk_30 rfl (lv_at hl 0 rfl) ?_
            refine lv_iload hx hb dX9_walk_31 (lv_at hl 4 rfl) ?_
            refine o_ViR (rest := []) (As := [.int x4_7]) (n := 1) hx hb hml hown hts hK hN hZ hW hS hA (c_X9_isWalked l G A Ω p0 p0_0 p0_1 p0_2 p0_3 p0_4 p0_5 p0_6 p0_7 p0_8 p0_9 p0_10 p0_11 p0_12 p0_13 x4_7 hM_p0 (by omega) h_p0) (inMod_o h_p0) rfl (good_V ml_X9_134 im_X9_isWalked se_X9_isWalked ini_X9 co_X9_isWalked) (by decide +kernel) ⟨Nat.zero_le _, Nat.zero_le _⟩ hl.1 (Nat.le_of_ble_eq_true rfl) rfl rfl dX9_walk_33 (fun r H locs hp hW hS => ?_)
            obtain ⟨rfl, hz_13⟩ := hp
            have J50 : ∀ (s0_14 : Int32) (H : Heap) (locs : List Loc), oW G A Ω H → va_S A s.heap H locs → ∀ ls : Array Slot, lv_has ls 8 [(0, .ref p0), (1, .int x1), (2, .int x2), (3, .int x3_7), (4, .int x4_7)] → (f_X9_walk_J50 p0_0 p0_2 x1 x2 x3_7 x4_7 (f_X9_walk_L21 p0_0 p0_2 x1 x2 n_8) s0_14) = R → W p l e (headSpec (wz yX9_walk cX9_walk 8 (some .int)) ({ frames := 3, cells := 0, slots := 0, locals := 68 } : Room)).room s m ([.ref p0, .int x1, .int x2] : List Value).toArray below meth c H locs 0 0 (MQ below (va_Qi (fun (r : Int32) (Ω1 : Om) => r = R ∧ Ω1 = Ω) (oB G A) A) ([.ref p0, .int x1, .int x2] : List Value).toArray s 0 0 A) (F0 m 50 ls [.int s0_14]) := by
              intro s0_14 H locs hW hS ls hl hR
              rw [f_X9_walk_J50] at hR
              refine lv_istore (lv' := [(5, .int s0_14), (0, .ref p0), (1, .int x1), (2, .int x2), (3, .int x3_7), (4, .int x4_7)]) hx hb dX9_walk_50 hl (by decide) rfl (fun ls hl => ?_)
              refine lv_iconst (v := (0 : Int32)) hx hb dX9_walk_52 (by decide) ?_
              refine lv_istore (lv' := [(6, .int (0 : Int32)), (5, .int s0_14), (0, .ref p0), (1, .int x1), (2, .int x2), (3, .int x3_7), (4, .int x4_7)]) hx hb dX9_walk_53 hl (by decide) rfl (fun ls hl => ?_)
              have L55 : ∀ (n_16 : Nat) (x3_15 : Int32) (x6_15 : Int32) (H : Heap) (locs : List Loc), (0 ≤ x6_15.toInt ∧ x6_15.toInt ≤ 8 ∧ 8 - x6_15.toInt < n_16) → oW G A Ω H → va_S A s.heap H locs → ∀ ls : Array Slot, lv_has ls 8 [(0, .ref p0), (1, .int x1), (2, .int x2), (3, .int x3_15), (4, .int x4_7), (5, .int s0_14), (6, .int x6_15)] → (f_X9_walk_L55 p0_0 p0_2 x1 x2 x4_7 s0_14 (f_X9_walk_L21 p0_0 p0_2 x1 x2 n_8) n_16 x3_15 x6_15) = R → W p l e (headSpec (wz yX9_walk cX9_walk 8 (some .int)) ({ frames := 3, cells := 0, slots := 0, locals := 68 } : Room)).room s m ([.ref p0, .int x1, .int x2] : List Value).toArray below meth c H locs 0 0 (MQ below (va_Qi (fun (r : Int32) (Ω1 : Om) => r = R ∧ Ω1 = Ω) (oB G A) A) ([.ref p0, .int x1, .int x2] : List Value).toArray s 0 0 A) (F0 m 55 ls []) := by
                intro n_16
                induction n_16 with
                | zero =>
                  intro x3_15 x6_15 H locs v_55_0 hW hS ls hl hR
                  exfalso
                  omega
                | succ n_16 ih55 =>
                  intro x3_15 x6_15 H locs v_55_0 hW hS ls hl hR
                  rw [f_X9_walk_L55] at hR
                  refine lv_iload hx hb dX9_walk_55 (lv_at hl 6 rfl) ?_
                  refine lv_bipush (v := (8 : Int32)) hx hb dX9_walk_57 (by decide) ?_
                  have j_18 : (8 : Int32).toInt = 8 := by decide
                  refine lv_icmp_ge (tgt := 139) hx hb dX9_walk_59 (by decide) (fun c_17 => ?_) (fun c_17 => ?_)
                  · rw [if_pos c_17] at hR
                    have i_17 := rle c_17
                    refine lv_iinc (v := (x4_7 + (1 : Int32))) (lv' := [(4, .int (x4_7 + (1 : Int32))), (0, .ref p0), (1, .int x1), (2, .int x2), (3, .int x3_15), (5, .int s0_14), (6, .int x6_15)]) hx hb dX9_walk_139 hl (k := 4) rfl rfl (by decide) rfl (fun ls hl => ?_)
                    refine lv_goto (tgt := 21) hx hb dX9_walk_142 (by decide) ?_
                    have j_19 : (1 : Int32).toInt = 1 := by decide
                    try have j_20 : (x4_7 + (1 : Int32)).toInt = x4_7.toInt + (1 : Int32).toInt := fb_addI (by omega) (by omega)
                    exact ih21 x3_15 (x4_7 + (1 : Int32)) H locs (by omega) hW hS ls (lv_sub hl [1, 2, 3, 4, 0] rfl) hR
                  · rw [if_neg c_17] at hR
                    have i_17 := rnle c_17
                    refine lv_iload hx hb dX9_walk_62 (lv_at hl 5 rfl) ?_
                    refine lv_iload hx hb dX9_walk_64 (lv_at hl 6 rfl) ?_
                    refine lv_ishr hx hb dX9_walk_66 ?_
                    refine lv_iconst (v := (1 : Int32)) hx hb dX9_walk_67 (by decide) ?_
                    refine lv_iand hx hb dX9_walk_68 ?_
                    refine lv_iconst (v := (1 : Int32)) hx hb dX9_walk_69 (by decide) ?_
                    have j_22 : (1 : Int32).toInt = 1 := by decide
                    refine lv_icmp_ne (tgt := 133) hx hb dX9_walk_70 (by decide) (fun c_21 => ?_) (fun c_21 => ?_)
                    · rw [if_neg c_21] at hR
                      have i_21 := rne c_21
                      refine lv_iinc (v := (x6_15 + (1 : Int32))) (lv' := [(6, .int (x6_15 + (1 : Int32))), (0, .ref p0), (1, .int x1), (2, .int x2), (3, .int x3_15), (4, .int x4_7), (5, .int s0_14)]) hx hb dX9_walk_133 hl (k := 6) rfl rfl (by decide) rfl (fun ls hl => ?_)
                      refine lv_goto (tgt := 55) hx hb dX9_walk_136 (by decide) ?_
                      try have j_23 : (x6_15 + (1 : Int32)).toInt = x6_15.toInt + (1 : Int32).toInt := fb_addI (by omega) (by omega)
                      exact ih55 x3_15 (x6_15 + (1 : Int32)) H locs (by omega) hW hS ls (lv_sub hl [1, 2, 3, 4, 5, 6, 0] rfl) hR
                    · rw [if_pos c_21] at hR
                      have i_21 := congrArg Int32.toInt c_21
                      refine lv_iload_n hx hb dX9_walk_73 rfl (lv_at hl 3 rfl) ?_
                      refine lv_iload_n hx hb dX9_walk_74 rfl (lv_at hl 1 rfl) ?_
                      refine lv_icmp_ne (tgt := 130) hx hb dX9_walk_75 (by decide) (fun c_24 => ?_) (fun c_24 => ?_)
                      · rw [if_neg c_24] at hR
                        have i_24 := rne c_24
                        refine lv_iinc (v := (x3_15 + (1 : Int32))) (lv' := [(3, .int (x3_15 + (1 : Int32))), (0, .ref p0), (1, .int x1), (2, .int x2), (4, .int x4_7), (5, .int s0_14), (6, .int x6_15)]) hx hb dX9_walk_130 hl (k := 3) rfl rfl (by decide) rfl (fun ls hl => ?_)
                        refine lv_iinc (v := (x6_15 + (1 : Int32))) (lv' := [(6, .int (x6_15 + (1 : Int32))), (3, .int (x3_15 + (1 : Int32))), (0, .ref p0), (1, .int x1), (2, .int x2), (4, .int x4_7), (5, .int s0_14)]) hx hb dX9_walk_133 hl (k := 6) rfl rfl (by decide) rfl (fun ls hl => ?_)
                        refine lv_goto (tgt := 55) hx hb dX9_walk_136 (by decide) ?_
                        try have j_25 : (x3_15 + (1 : Int32)).toInt = x3_15.toInt + (1 : Int32).toInt := fb_addI (by omega) (by omega)
                        try have j_26 : (x6_15 + (1 : Int32)).toInt = x6_15.toInt + (1 : Int32).toInt := fb_addI (by omega) (by omega)
                        exact ih55 (x3_15 + (1 : Int32)) (x6_15 + (1 : Int32)) H locs (by omega) hW hS ls (lv_sub hl [2, 3, 4, 1, 5, 6, 0] rfl) hR
                      · rw [if_pos c_24] at hR
                        have i_24 := congrArg Int32.toInt c_24
                        refine lv_aload_n hx hb dX9_walk_78 rfl (lv_at hl 0 rfl) ?_
                        refine lv_bipush (v := (36 : Int32)) hx hb dX9_walk_79 (by decide) ?_
                        refine lv_iload hx hb dX9_walk_81 (lv_at hl 4 rfl) ?_
                        have j_27 : (36 : Int32).toInt = 36 := by decide
                        refine o_ViR (rest := []) (As := [.int (36 : Int32), .int x4_7]) (n := 2) hx hb hml hown hts hK hN hZ hW hS hA (c_X9_tellsOf l G A Ω p0 p0_0 p0_1 p0_2 p0_3 p0_4 p0_5 p0_6 p0_7 p0_8 p0_9 p0_10 p0_11 p0_12 p0_13 (36 : Int32) x4_7 hM_p0 (by omega) h_p0) (inMod_o h_p0) rfl (good_V ml_X9_70 im_X9_tellsOf se_X9_tellsOf ini_X9 co_X9_tellsOf) (by decide +kernel) ⟨Nat.zero_le _, Nat.zero_le _⟩ hl.1 (Nat.le_of_ble_eq_true rfl) rfl rfl dX9_walk_83 (fun r H locs hp hW hS => ?_)
                        subst hp
                        refine lv_istore (lv' := [(7, .int (f_X9_tellsOf p0_0 p0_2 (36 : Int32) x4_7)), (0, .ref p0), (1, .int x1), (2, .int x2), (3, .int x3_15), (4, .int x4_7), (5, .int s0_14), (6, .int x6_15)]) hx hb dX9_walk_86 hl (by decide) rfl (fun ls hl => ?_)
                        refine lv_iload_n hx hb dX9_walk_88 rfl (lv_at hl 3 rfl) ?_
                        refine lv_if_ne (tgt := 104) hx hb dX9_walk_89 (by decide) (fun c_29 => ?_) (fun c_29 => ?_)
                        · rw [if_neg c_29] at hR
                          have i_29 := rne c_29
                          refine lv_iload_n hx hb dX9_walk_104 rfl (lv_at hl 3 rfl) ?_
                          refine lv_iconst (v := (1 : Int32)) hx hb dX9_walk_105 (by decide) ?_
                          refine lv_icmp_ne (tgt := 122) hx hb dX9_walk_106 (by decide) (fun c_30 => ?_) (fun c_30 => ?_)
                          · rw [if_neg c_30] at hR
                            have i_30 := rne c_30
                            refine lv_iload hx hb dX9_walk_122 (lv_at hl 0 rfl) ?_
                            refine lv_iconst (v := (1 : Int32)) hx hb dX9_walk_124 (by decide) ?_
                            refine lv_iload hx hb dX9_walk_125 (lv_at hl 7 rfl) ?_
                            refine lv_ishl hx hb dX9_walk_127 ?_
                            refine lv_ixor hx hb dX9_walk_128 ?_
                            subst hR
                            exact W.iret (v := ((f_X9_tellsOf p0_0 p0_2 (36 : Int32) x4_7) ^^^ ((1 : Int32) <<< (x6_15 &&& 31)))) hx hb hr (fun t ht hW9 => ⟨⟨((f_X9_tellsOf p0_0 p0_2 (36 : Int32) x4_7) ^^^ ((1 : Int32) <<< (x6_15 &&& 31))), Ω, rfl, ⟨rfl, rfl⟩, by rw [oB, ht]; exact hW⟩, hS.F ht⟩) hS.2.2 dX9_walk_129
                          · rw [if_pos c_30] at hR
                            have i_30 := congrArg Int32.toInt c_30
                            refine lv_iload hx hb dX9_walk_109 (lv_at hl 0 rfl) ?_
                            refine lv_aload_n hx hb dX9_walk_111 rfl (lv_at hl 1 rfl) ?_
                            refine lv_iload hx hb dX9_walk_112 (lv_at hl 5 rfl) ?_
                            refine lv_iconst (v := (0 : Int32)) hx hb dX9_walk_114 (by decide) ?_
                            refine o_ViR (rest := [.int (f_X9_tellsOf p0_0 p0_2 (36 : Int32) x4_7)]) (As := [.int x4_7, .int (0 : Int32)]) (n := 2) hx hb hml hown hts hK hN hZ hW hS hA (c_X9_bitsBy l G A Ω p0 p0_0 p0_1 p0_2 p0_3 p0_4 p0_5 p0_6 p0_7 p0_8 p0_9 p0_10 p0_11 p0_12 p0_13 x4_7 (0 : Int32) hM_p0 h_p0) (inMod_o h_p0) rfl (good_V ml_X9_137 im_X9_bitsBy se_X9_bitsBy ini_X9 co_X9_bitsBy) (by decide +kernel) ⟨Nat.zero_le _, Nat.zero_le _⟩ hl.1 (Nat.le_of_ble_eq_true rfl) rfl rfl dX9_walk_115 (fun r H locs hp hW hS => ?_)
                            subst hp
                            refine lv_iand hx hb dX9_walk_118 ?_
                            refine lv_goto (tgt := 124) hx hb dX9_walk_119 (by decide) ?_
                            refine lv_iconst (v := (1 : Int32)) hx hb dX9_walk_124 (by decide) ?_
                            refine lv_iload hx hb dX9_walk_125 (lv_at hl 7 rfl) ?_
                            refine lv_ishl hx hb dX9_walk_127 ?_
                            refine lv_ixor hx hb dX9_walk_128 ?_
                            subst hR
                            exact W.iret (v := (((f_X9_tellsOf p0_0 p0_2 (36 : Int32) x4_7) &&& (f_X9_bitsBy p0_0 x4_7 (0 : Int32))) ^^^ ((1 : Int32) <<< (x6_15 &&& 31)))) hx hb hr (fun t ht hW9 => ⟨⟨(((f_X9_tellsOf p0_0 p0_2 (36 : Int32) x4_7) &&& (f_X9_bitsBy p0_0 x4_7 (0 : Int32))) ^^^ ((1 : Int32) <<< (x6_15 &&& 31))), Ω, rfl, ⟨rfl, rfl⟩, by rw [oB, ht]; exact hW⟩, hS.F ht⟩) hS.2.2 dX9_walk_129
                        · rw [if_pos c_29] at hR
                          have i_29 := congrArg Int32.toInt c_29
                          refine lv_aload_n hx hb dX9_walk_92 rfl (lv_at hl 1 rfl) ?_
                          refine o_get hx hb hts hown hK hW (inMod_o h_p0) rfl ig9 0 (by decide) fl_X9_7 rfl dX9_walk_93 ?_
                          refine lv_iconst (v := (0 : Int32)) hx hb dX9_walk_96 (by decide) ?_
                          refine lv_iload hx hb dX9_walk_97 (lv_at hl 5 rfl) ?_
                          refine lv_iadd hx hb dX9_walk_99 ?_
                          try have j_32 : ((0 : Int32) + x4_7).toInt = (0 : Int32).toInt + x4_7.toInt := fb_addI (by omega) (by omega)
                          refine o_iald hx hb hK hW (inMod_a0 h_p0) (vp_in_iff.mpr ⟨by omega, by omega⟩) dX9_walk_100 ?_
                          refine lv_goto (tgt := 129) hx hb dX9_walk_101 (by decide) ?_
                          subst hR
                          exact W.iret (v := (p0_0 ((0 : Int32) + x4_7).toNatClampNeg)) hx hb hr (fun t ht hW9 => ⟨⟨(p0_0 ((0 : Int32) + x4_7).toNatClampNeg), Ω, rfl, ⟨rfl, rfl⟩, by rw [oB, ht]; exact hW⟩, hS.F ht⟩) hS.2.2 dX9_walk_129
              exact L55 4000 x3_7 (0 : Int32) H locs (by omega) hW hS ls (lv_sub hl [2, 3, 4, 5, 6, 1, 0] rfl) hR
            refine lv_if_eq (tgt := 49) hx hb dX9_walk_36 (by decide) (fun c_33 => ?_) (fun c_33 => ?_)
            · rw [if_pos c_33] at hR
              have i_33 := congrArg Int32.toInt c_33
              refine lv_iconst (v := (0 : Int32)) hx hb dX9_walk_49 (by decide) ?_
              exact J50 (0 : Int32) H locs hW hS ls (lv_sub hl [0, 1, 2, 3, 4] rfl) hR
            · rw [if_neg c_33] at hR
              have i_33 := rne c_33
              refine lv_aload_n hx hb dX9_walk_39 rfl (lv_at hl 0 rfl) ?_
              refine lv_iload hx hb dX9_walk_40 (lv_at hl 4 rfl) ?_
              refine lv_iconst (v := (1 : Int32)) hx hb dX9_walk_42 (by decide) ?_
              have j_34 : (1 : Int32).toInt = 1 := by decide
              refine o_ViR (rest := []) (As := [.int x4_7, .int (1 : Int32)]) (n := 2) hx hb hml hown hts hK hN hZ hW hS hA (c_X9_bitsBy l G A Ω p0 p0_0 p0_1 p0_2 p0_3 p0_4 p0_5 p0_6 p0_7 p0_8 p0_9 p0_10 p0_11 p0_12 p0_13 x4_7 (1 : Int32) hM_p0 h_p0) (inMod_o h_p0) rfl (good_V ml_X9_137 im_X9_bitsBy se_X9_bitsBy ini_X9 co_X9_bitsBy) (by decide +kernel) ⟨Nat.zero_le _, Nat.zero_le _⟩ hl.1 (Nat.le_of_ble_eq_true rfl) rfl rfl dX9_walk_43 (fun r H locs hp hW hS => ?_)
              subst hp
              refine lv_goto (tgt := 50) hx hb dX9_walk_46 (by decide) ?_
              exact J50 (f_X9_bitsBy p0_0 x4_7 (1 : Int32)) H locs hW hS ls (lv_sub hl [0, 1, 2, 3, 4] rfl) hR
      exact L21 4000 (0 : Int32) (0 : Int32) H locs (by omega) hW hS ls (lv_sub hl [2, 3, 4, 1, 0] rfl) hR
    · rw [if_pos c_6] at hR
      have i_6 := congrArg Int32.toInt c_6
      refine lv_iconst (v := (-1 : Int32)) hx hb dX9_walk_14 (by decide) ?_
      subst hR
      exact W.iret (v := (-1 : Int32)) hx hb hr (fun t ht hW9 => ⟨⟨(-1 : Int32), Ω, rfl, ⟨rfl, rfl⟩, by rw [oB, ht]; exact hW⟩, hS.F ht⟩) hS.2.2 dX9_walk_15
set_option maxHeartbeats 4000000 in
set_option maxRecDepth 100000 in
theorem c_X9_keep (l : Launch) (G : Gm) (A : Nat → Prop) (Ω : Om) (p0 : Nat) (p0_0 : Fn) (p0_1 : Fn) (p0_2 : Fn) (p0_3 : Fn) (p0_4 : Int32) (p0_5 : Fn) (p0_6 : Fn) (p0_7 : Fn) (p0_8 : Int32) (p0_9 : Int32) (p0_10 : Int32) (p0_11 : Int32) (p0_12 : Int32) (p0_13 : Int32) (x1 : Int32) (h_p0 : inMod G Ω p0 p0_0 p0_1 p0_2 p0_3 p0_4 p0_5 p0_6 p0_7 p0_8 p0_9 p0_10 p0_11 p0_12 p0_13) : Met l yX9_keep (wz yX9_keep cX9_keep 3 (some .int)) ({ frames := 1, cells := 0, slots := 0, locals := 22 } : Room) (va_Pc [.ref p0, .int x1] (oS G A Ω)) (va_Qi (fun (r : Int32) (Ω1 : Om) => r = (f_X9_keep p0_2 p0_5 p0_6 x1).1 ∧ inMod G Ω1 p0 p0_0 p0_1 p0_2 p0_3 p0_4 ((f_X9_keep p0_2 p0_5 p0_6 x1).2.1) ((f_X9_keep p0_2 p0_5 p0_6 x1).2.2) p0_7 p0_8 p0_9 p0_10 p0_11 p0_12 p0_13 ∧ (∀ q : Nat, (q < p0 ∨ p0 + 8 ≤ q) → Ω1 q = Ω q)) (oB G A) A) 0 0 A := by
  refine Met.ofW (cc := cX9_keep) (maxL := 3) (ret := (some .int)) (by decide) rfl ?_
  intro p e s m args below meth c s₁ B hml hv
  obtain ⟨rfl, hW, hK, hN, hZ⟩ := hv
  have hx := B.exec
  have hb := B.bytes
  have hr := B.returns
  have hts : ∀ w ∈ gt, w.before _ s = true := fun w hw => atoms_spec (ws := wz yX9_keep cX9_keep 3 (some .int)) B.pre w (List.mem_cons_of_mem _ hw)
  have hown : s.vm.findClass RX9 = some m.cls := findClass_of_methodNamed B.named
  have hlocks := B.notSynchronized
  have hA : ∀ q, A q → A q := fun _ h => h
  have hS : va_S A s.heap s.heap [] := va_S.rf
  have hS0 := hS
  have hl := lv_entry ([.ref p0, .int x1]) (n := 3) (Nat.le_of_ble_eq_true rfl)
  rw [lg_entry_eq]
  generalize (lg_sl ([.ref p0, .int x1]) ++ List.replicate (3 - (lg_sl ([.ref p0, .int x1])).length) Slot.unset).toArray = ls at hl ⊢
  have hl : lv_has ls 3 [(0, .ref p0), (1, .int x1)] := hl
  have hE : ∀ q : Nat, (q < p0 ∨ p0 + 8 ≤ q) → Ω q = Ω q := by intros; rfl
  generalize hR : (f_X9_keep p0_2 p0_5 p0_6 x1) = R
  rw [f_X9_keep] at hR
  refine lv_iload_n hx hb dX9_keep_0 rfl (lv_at hl 1 rfl) ?_
  refine lv_iconst (v := (0 : Int32)) hx hb dX9_keep_1 (by decide) ?_
  refine lv_iconst (v := (1 : Int32)) hx hb dX9_keep_2 (by decide) ?_
  have j_1 : (0 : Int32).toInt = 0 := by decide
  have j_2 : (1 : Int32).toInt = 1 := by decide
  refine o_SiR (rest := []) (As := [.int x1, .int (0 : Int32), .int (1 : Int32)]) (n := 3) hx hb hml hown hts hK hN hZ hW hS hA (c_X9_in l G A Ω x1 (0 : Int32) (1 : Int32)) ml_X9_39 st_X9_in ini_X9 co_X9_in (by decide +kernel) ⟨Nat.zero_le _, Nat.zero_le _⟩ hl.1 (Nat.le_of_ble_eq_true rfl) rfl rfl dX9_keep_3 (fun r H locs hp hW hS => ?_)
  obtain ⟨rfl, hz_3⟩ := hp
  refine lv_if_ne (tgt := 11) hx hb dX9_keep_6 (by decide) (fun c_4 => ?_) (fun c_4 => ?_)
  · rw [if_neg c_4] at hR
    have i_4 := rne c_4
    have b_c_4 := rIN c_4
    refine lv_iconst (v := (0 : Int32)) hx hb dX9_keep_11 (by decide) ?_
    refine lv_istore_n (lv' := [(2, .int (0 : Int32)), (0, .ref p0), (1, .int x1)]) hx hb dX9_keep_12 rfl hl (by decide) rfl (fun ls hl => ?_)
    have L13 : ∀ (n_6 : Nat) (x2_5 : Int32) (p0_5_5 : Fn) (Ω_7 : Om) (H : Heap) (locs : List Loc), (0 ≤ x2_5.toInt ∧ x2_5.toInt ≤ 135 ∧ 135 - x2_5.toInt < n_6) → inMod G Ω_7 p0 p0_0 p0_1 p0_2 p0_3 p0_4 p0_5_5 p0_6 p0_7 p0_8 p0_9 p0_10 p0_11 p0_12 p0_13 → (∀ q : Nat, (q < p0 ∨ p0 + 8 ≤ q) → Ω_7 q = Ω q) → oW G A Ω_7 H → va_S A s.heap H locs → ∀ ls : Array Slot, lv_has ls 3 [(0, .ref p0), (1, .int x1), (2, .int x2_5)] → (f_X9_keep_L13 p0_2 p0_6 x1 n_6 x2_5 p0_5_5) = R → W p l e (headSpec (wz yX9_keep cX9_keep 3 (some .int)) ({ frames := 1, cells := 0, slots := 0, locals := 22 } : Room)).room s m ([.ref p0, .int x1] : List Value).toArray below meth c H locs 0 0 (MQ below (va_Qi (fun (r : Int32) (Ω1 : Om) => r = R.1 ∧ inMod G Ω1 p0 p0_0 p0_1 p0_2 p0_3 p0_4 (R.2.1) (R.2.2) p0_7 p0_8 p0_9 p0_10 p0_11 p0_12 p0_13 ∧ (∀ q : Nat, (q < p0 ∨ p0 + 8 ≤ q) → Ω1 q = Ω q)) (oB G A) A) ([.ref p0, .int x1] : List Value).toArray s 0 0 A) (F0 m 13 ls []) := by
      intro n_6
      induction n_6 with
      | zero =>
        intro x2_5 p0_5_5 Ω_7 H locs v_13_0 h_p0 hE hW hS ls hl hR
        exfalso
        omega
      | succ n_6 ih13 =>
        intro x2_5 p0_5_5 Ω_7 H locs v_13_0 h_p0 hE hW hS ls hl hR
        rw [f_X9_keep_L13] at hR
        refine lv_iload_n hx hb dX9_keep_13 rfl (lv_at hl 2 rfl) ?_
        refine lv_sipush (v := (135 : Int32)) hx hb dX9_keep_14 (by decide) ?_
        have j_9 : (135 : Int32).toInt = 135 := by decide
        refine lv_icmp_ge (tgt := 44) hx hb dX9_keep_17 (by decide) (fun c_8 => ?_) (fun c_8 => ?_)
        · rw [if_pos c_8] at hR
          have i_8 := rle c_8
          refine lv_aload_n hx hb dX9_keep_44 rfl (lv_at hl 0 rfl) ?_
          refine o_get hx hb hts hown hK hW (inMod_o h_p0) rfl ig9 6 (by decide) fl_X9_25 rfl dX9_keep_45 ?_
          refine lv_iload_n hx hb dX9_keep_48 rfl (lv_at hl 1 rfl) ?_
          refine lv_iconst (v := (1 : Int32)) hx hb dX9_keep_49 (by decide) ?_
          refine wMod_5 hx hb hK hW hS hA h_p0 (vp_in_iff.mpr ⟨by omega, by omega⟩) dX9_keep_50 (fun Ω_10 H locs h_p0 hF_10 hW hS => ?_)
          have hE : ∀ q : Nat, (q < p0 ∨ p0 + 8 ≤ q) → Ω_10 q = Ω q := fun q g0 => (hF_10 q (by omega)).trans (hE q g0)
          refine lv_aload_n hx hb dX9_keep_51 rfl (lv_at hl 0 rfl) ?_
          refine o_get hx hb hts hown hK hW (inMod_o h_p0) rfl ig9 2 (by decide) fl_X9_16 rfl dX9_keep_52 ?_
          refine lv_bipush (v := (72 : Int32)) hx hb dX9_keep_55 (by decide) ?_
          have j_11 : (72 : Int32).toInt = 72 := by decide
          refine o_iald hx hb hK hW (inMod_a2 h_p0) (vp_in_iff.mpr ⟨by omega, by omega⟩) dX9_keep_57 ?_
          subst hR
          exact W.iret (v := (p0_2 (72 : Int32).toNatClampNeg)) hx hb hr (fun t ht hW9 => ⟨⟨(p0_2 (72 : Int32).toNatClampNeg), Ω_10, rfl, ⟨rfl, h_p0, hE⟩, by rw [oB, ht]; exact hW⟩, hS.F ht⟩) hS.2.2 dX9_keep_58
        · rw [if_neg c_8] at hR
          have i_8 := rnle c_8
          refine lv_aload_n hx hb dX9_keep_20 rfl (lv_at hl 0 rfl) ?_
          refine o_get hx hb hts hown hK hW (inMod_o h_p0) rfl ig9 5 (by decide) fl_X9_22 rfl dX9_keep_21 ?_
          refine lv_sipush (v := (135 : Int32)) hx hb dX9_keep_24 (by decide) ?_
          refine lv_iload_n hx hb dX9_keep_27 rfl (lv_at hl 1 rfl) ?_
          refine lv_imul hx hb dX9_keep_28 ?_
          refine lv_iload_n hx hb dX9_keep_29 rfl (lv_at hl 2 rfl) ?_
          refine lv_iadd hx hb dX9_keep_30 ?_
          refine lv_aload_n hx hb dX9_keep_31 rfl (lv_at hl 0 rfl) ?_
          refine o_get hx hb hts hown hK hW (inMod_o h_p0) rfl ig9 2 (by decide) fl_X9_16 rfl dX9_keep_32 ?_
          refine lv_iload_n hx hb dX9_keep_35 rfl (lv_at hl 2 rfl) ?_
          refine o_iald hx hb hK hW (inMod_a2 h_p0) (vp_in_iff.mpr ⟨by omega, by omega⟩) dX9_keep_36 ?_
          try have j_12 : ((135 : Int32) * x1).toInt = 135 * x1.toInt := rg_mul2 (by decide) (by omega) (by omega)
          try have j_13 : (((135 : Int32) * x1) + x2_5).toInt = ((135 : Int32) * x1).toInt + x2_5.toInt := fb_addI (by omega) (by omega)
          refine wMod_4 hx hb hK hW hS hA h_p0 (vp_in_iff.mpr ⟨by omega, by omega⟩) dX9_keep_37 (fun Ω_14 H locs h_p0 hF_14 hW hS => ?_)
          have hE : ∀ q : Nat, (q < p0 ∨ p0 + 8 ≤ q) → Ω_14 q = Ω q := fun q g0 => (hF_14 q (by omega)).trans (hE q g0)
          refine lv_iinc (v := (x2_5 + (1 : Int32))) (lv' := [(2, .int (x2_5 + (1 : Int32))), (0, .ref p0), (1, .int x1)]) hx hb dX9_keep_38 hl (k := 2) rfl rfl (by decide) rfl (fun ls hl => ?_)
          refine lv_goto (tgt := 13) hx hb dX9_keep_41 (by decide) ?_
          try have j_15 : (x2_5 + (1 : Int32)).toInt = x2_5.toInt + (1 : Int32).toInt := fb_addI (by omega) (by omega)
          exact ih13 (x2_5 + (1 : Int32)) (upd p0_5_5 (((135 : Int32) * x1) + x2_5).toNatClampNeg (p0_2 x2_5.toNatClampNeg)) Ω_14 H locs (by omega) h_p0 hE hW hS ls (lv_sub hl [1, 2, 0] rfl) hR
    exact L13 4000 (0 : Int32) p0_5 Ω H locs (by omega) h_p0 hE hW hS ls (lv_sub hl [1, 2, 0] rfl) hR
  · rw [if_pos c_4] at hR
    have i_4 := congrArg Int32.toInt c_4
    refine lv_iconst (v := (-1 : Int32)) hx hb dX9_keep_9 (by decide) ?_
    subst hR
    exact W.iret (v := (-1 : Int32)) hx hb hr (fun t ht hW9 => ⟨⟨(-1 : Int32), Ω, rfl, ⟨rfl, h_p0, hE⟩, by rw [oB, ht]; exact hW⟩, hS.F ht⟩) hS.2.2 dX9_keep_10
set_option maxHeartbeats 4000000 in
set_option maxRecDepth 100000 in
theorem c_X9_back (l : Launch) (G : Gm) (A : Nat → Prop) (Ω : Om) (p0 : Nat) (p0_0 : Fn) (p0_1 : Fn) (p0_2 : Fn) (p0_3 : Fn) (p0_4 : Int32) (p0_5 : Fn) (p0_6 : Fn) (p0_7 : Fn) (p0_8 : Int32) (p0_9 : Int32) (p0_10 : Int32) (p0_11 : Int32) (p0_12 : Int32) (p0_13 : Int32) (x1 : Int32) (h_p0 : inMod G Ω p0 p0_0 p0_1 p0_2 p0_3 p0_4 p0_5 p0_6 p0_7 p0_8 p0_9 p0_10 p0_11 p0_12 p0_13) : Met l yX9_back (wz yX9_back cX9_back 3 (some .int)) ({ frames := 1, cells := 0, slots := 0, locals := 22 } : Room) (va_Pc [.ref p0, .int x1] (oS G A Ω)) (va_Qi (fun (r : Int32) (Ω1 : Om) => r = (f_X9_back p0_2 p0_4 p0_5 p0_6 x1).1 ∧ inMod G Ω1 p0 p0_0 p0_1 ((f_X9_back p0_2 p0_4 p0_5 p0_6 x1).2.1) p0_3 ((f_X9_back p0_2 p0_4 p0_5 p0_6 x1).2.2) p0_5 p0_6 p0_7 p0_8 p0_9 p0_10 p0_11 p0_12 p0_13 ∧ (∀ q : Nat, (q < p0 ∨ p0 + 8 ≤ q) → Ω1 q = Ω q)) (oB G A) A) 0 0 A := by
  refine Met.ofW (cc := cX9_back) (maxL := 3) (ret := (some .int)) (by decide) rfl ?_
  intro p e s m args below meth c s₁ B hml hv
  obtain ⟨rfl, hW, hK, hN, hZ⟩ := hv
  have hx := B.exec
  have hb := B.bytes
  have hr := B.returns
  have hts : ∀ w ∈ gt, w.before _ s = true := fun w hw => atoms_spec (ws := wz yX9_back cX9_back 3 (some .int)) B.pre w (List.mem_cons_of_mem _ hw)
  have hown : s.vm.findClass RX9 = some m.cls := findClass_of_methodNamed B.named
  have hlocks := B.notSynchronized
  have hA : ∀ q, A q → A q := fun _ h => h
  have hS : va_S A s.heap s.heap [] := va_S.rf
  have hS0 := hS
  have hl := lv_entry ([.ref p0, .int x1]) (n := 3) (Nat.le_of_ble_eq_true rfl)
  rw [lg_entry_eq]
  generalize (lg_sl ([.ref p0, .int x1]) ++ List.replicate (3 - (lg_sl ([.ref p0, .int x1])).length) Slot.unset).toArray = ls at hl ⊢
  have hl : lv_has ls 3 [(0, .ref p0), (1, .int x1)] := hl
  have hE : ∀ q : Nat, (q < p0 ∨ p0 + 8 ≤ q) → Ω q = Ω q := by intros; rfl
  generalize hR : (f_X9_back p0_2 p0_4 p0_5 p0_6 x1) = R
  rw [f_X9_back] at hR
  refine lv_iload_n hx hb dX9_back_0 rfl (lv_at hl 1 rfl) ?_
  refine lv_iconst (v := (0 : Int32)) hx hb dX9_back_1 (by decide) ?_
  refine lv_iconst (v := (1 : Int32)) hx hb dX9_back_2 (by decide) ?_
  have j_1 : (0 : Int32).toInt = 0 := by decide
  have j_2 : (1 : Int32).toInt = 1 := by decide
  refine o_SiR (rest := []) (As := [.int x1, .int (0 : Int32), .int (1 : Int32)]) (n := 3) hx hb hml hown hts hK hN hZ hW hS hA (c_X9_in l G A Ω x1 (0 : Int32) (1 : Int32)) ml_X9_39 st_X9_in ini_X9 co_X9_in (by decide +kernel) ⟨Nat.zero_le _, Nat.zero_le _⟩ hl.1 (Nat.le_of_ble_eq_true rfl) rfl rfl dX9_back_3 (fun r H locs hp hW hS => ?_)
  obtain ⟨rfl, hz_3⟩ := hp
  refine lv_if_ne (tgt := 11) hx hb dX9_back_6 (by decide) (fun c_4 => ?_) (fun c_4 => ?_)
  · rw [if_neg c_4] at hR
    have i_4 := rne c_4
    have b_c_4 := rIN c_4
    refine lv_aload_n hx hb dX9_back_11 rfl (lv_at hl 0 rfl) ?_
    refine o_get hx hb hts hown hK hW (inMod_o h_p0) rfl ig9 6 (by decide) fl_X9_25 rfl dX9_back_12 ?_
    refine lv_iload_n hx hb dX9_back_15 rfl (lv_at hl 1 rfl) ?_
    refine o_zald hx hb hK hW (inMod_a5 h_p0) (vp_in_iff.mpr ⟨by omega, by omega⟩) dX9_back_16 ?_
    refine lv_if_ne (tgt := 23) hx hb dX9_back_17 (by decide) (fun c_5 => ?_) (fun c_5 => ?_)
    · rw [if_neg c_5] at hR
      have i_5 := rne c_5
      refine lv_iconst (v := (0 : Int32)) hx hb dX9_back_23 (by decide) ?_
      refine lv_istore_n (lv' := [(2, .int (0 : Int32)), (0, .ref p0), (1, .int x1)]) hx hb dX9_back_24 rfl hl (by decide) rfl (fun ls hl => ?_)
      have L25 : ∀ (n_7 : Nat) (x2_6 : Int32) (p0_2_6 : Fn) (Ω_8 : Om) (H : Heap) (locs : List Loc), (0 ≤ x2_6.toInt ∧ x2_6.toInt ≤ 135 ∧ 135 - x2_6.toInt < n_7) → inMod G Ω_8 p0 p0_0 p0_1 p0_2_6 p0_3 p0_4 p0_5 p0_6 p0_7 p0_8 p0_9 p0_10 p0_11 p0_12 p0_13 → (∀ q : Nat, (q < p0 ∨ p0 + 8 ≤ q) → Ω_8 q = Ω q) → oW G A Ω_8 H → va_S A s.heap H locs → ∀ ls : Array Slot, lv_has ls 3 [(0, .ref p0), (1, .int x1), (2, .int x2_6)] → (f_X9_back_L25 p0_5 x1 n_7 x2_6 p0_2_6) = R → W p l e (headSpec (wz yX9_back cX9_back 3 (some .int)) ({ frames := 1, cells := 0, slots := 0, locals := 22 } : Room)).room s m ([.ref p0, .int x1] : List Value).toArray below meth c H locs 0 0 (MQ below (va_Qi (fun (r : Int32) (Ω1 : Om) => r = R.1 ∧ inMod G Ω1 p0 p0_0 p0_1 (R.2.1) p0_3 (R.2.2) p0_5 p0_6 p0_7 p0_8 p0_9 p0_10 p0_11 p0_12 p0_13 ∧ (∀ q : Nat, (q < p0 ∨ p0 + 8 ≤ q) → Ω1 q = Ω q)) (oB G A) A) ([.ref p0, .int x1] : List Value).toArray s 0 0 A) (F0 m 25 ls []) := by
        intro n_7
        induction n_7 with
        | zero =>
          intro x2_6 p0_2_6 Ω_8 H locs v_25_0 h_p0 hE hW hS ls hl hR
          exfalso
          omega
        | succ n_7 ih25 =>
          intro x2_6 p0_2_6 Ω_8 H locs v_25_0 h_p0 hE hW hS ls hl hR
          rw [f_X9_back_L25] at hR
          refine lv_iload_n hx hb dX9_back_25 rfl (lv_at hl 2 rfl) ?_
          refine lv_sipush (v := (135 : Int32)) hx hb dX9_back_26 (by decide) ?_
          have j_10 : (135 : Int32).toInt = 135 := by decide
          refine lv_icmp_ge (tgt := 56) hx hb dX9_back_29 (by decide) (fun c_9 => ?_) (fun c_9 => ?_)
          · rw [if_pos c_9] at hR
            have i_9 := rle c_9
            refine lv_aload_n hx hb dX9_back_56 rfl (lv_at hl 0 rfl) ?_
            refine lv_iconst (v := (0 : Int32)) hx hb dX9_back_57 (by decide) ?_
            refine vMod_4 hx hb hts hown hK hW hS hA h_p0 fl_X9_60 dX9_back_58 (fun Ω_11 H locs h_p0 hF_11 hW hS => ?_)
            have hE : ∀ q : Nat, (q < p0 ∨ p0 + 8 ≤ q) → Ω_11 q = Ω q := fun q g0 => (hF_11 q (by omega)).trans (hE q g0)
            refine lv_aload_n hx hb dX9_back_61 rfl (lv_at hl 0 rfl) ?_
            refine o_get hx hb hts hown hK hW (inMod_o h_p0) rfl ig9 2 (by decide) fl_X9_16 rfl dX9_back_62 ?_
            refine lv_bipush (v := (72 : Int32)) hx hb dX9_back_65 (by decide) ?_
            have j_12 : (72 : Int32).toInt = 72 := by decide
            refine o_iald hx hb hK hW (inMod_a2 h_p0) (vp_in_iff.mpr ⟨by omega, by omega⟩) dX9_back_67 ?_
            subst hR
            exact W.iret (v := (p0_2_6 (72 : Int32).toNatClampNeg)) hx hb hr (fun t ht hW9 => ⟨⟨(p0_2_6 (72 : Int32).toNatClampNeg), Ω_11, rfl, ⟨rfl, h_p0, hE⟩, by rw [oB, ht]; exact hW⟩, hS.F ht⟩) hS.2.2 dX9_back_68
          · rw [if_neg c_9] at hR
            have i_9 := rnle c_9
            refine lv_aload_n hx hb dX9_back_32 rfl (lv_at hl 0 rfl) ?_
            refine o_get hx hb hts hown hK hW (inMod_o h_p0) rfl ig9 2 (by decide) fl_X9_16 rfl dX9_back_33 ?_
            refine lv_iload_n hx hb dX9_back_36 rfl (lv_at hl 2 rfl) ?_
            refine lv_aload_n hx hb dX9_back_37 rfl (lv_at hl 0 rfl) ?_
            refine o_get hx hb hts hown hK hW (inMod_o h_p0) rfl ig9 5 (by decide) fl_X9_22 rfl dX9_back_38 ?_
            refine lv_sipush (v := (135 : Int32)) hx hb dX9_back_41 (by decide) ?_
            refine lv_iload_n hx hb dX9_back_44 rfl (lv_at hl 1 rfl) ?_
            refine lv_imul hx hb dX9_back_45 ?_
            refine lv_iload_n hx hb dX9_back_46 rfl (lv_at hl 2 rfl) ?_
            refine lv_iadd hx hb dX9_back_47 ?_
            try have j_13 : ((135 : Int32) * x1).toInt = 135 * x1.toInt := rg_mul2 (by decide) (by omega) (by omega)
            try have j_14 : (((135 : Int32) * x1) + x2_6).toInt = ((135 : Int32) * x1).toInt + x2_6.toInt := fb_addI (by omega) (by omega)
            refine o_iald hx hb hK hW (inMod_a4 h_p0) (vp_in_iff.mpr ⟨by omega, by omega⟩) dX9_back_48 ?_
            refine wMod_2 hx hb hK hW hS hA h_p0 (vp_in_iff.mpr ⟨by omega, by omega⟩) dX9_back_49 (fun Ω_15 H locs h_p0 hF_15 hW hS => ?_)
            have hE : ∀ q : Nat, (q < p0 ∨ p0 + 8 ≤ q) → Ω_15 q = Ω q := fun q g0 => (hF_15 q (by omega)).trans (hE q g0)
            refine lv_iinc (v := (x2_6 + (1 : Int32))) (lv' := [(2, .int (x2_6 + (1 : Int32))), (0, .ref p0), (1, .int x1)]) hx hb dX9_back_50 hl (k := 2) rfl rfl (by decide) rfl (fun ls hl => ?_)
            refine lv_goto (tgt := 25) hx hb dX9_back_53 (by decide) ?_
            try have j_16 : (x2_6 + (1 : Int32)).toInt = x2_6.toInt + (1 : Int32).toInt := fb_addI (by omega) (by omega)
            exact ih25 (x2_6 + (1 : Int32)) (upd p0_2_6 x2_6.toNatClampNeg (p0_5 (((135 : Int32) * x1) + x2_6).toNatClampNeg)) Ω_15 H locs (by omega) h_p0 hE hW hS ls (lv_sub hl [1, 2, 0] rfl) hR
      exact L25 4000 (0 : Int32) p0_2 Ω H locs (by omega) h_p0 hE hW hS ls (lv_sub hl [1, 2, 0] rfl) hR
    · rw [if_pos c_5] at hR
      have i_5 := congrArg Int32.toInt c_5
      refine lv_bipush (v := (-2 : Int32)) hx hb dX9_back_20 (by decide) ?_
      subst hR
      exact W.iret (v := (-2 : Int32)) hx hb hr (fun t ht hW9 => ⟨⟨(-2 : Int32), Ω, rfl, ⟨rfl, h_p0, hE⟩, by rw [oB, ht]; exact hW⟩, hS.F ht⟩) hS.2.2 dX9_back_22
  · rw [if_pos c_4] at hR
    have i_4 := congrArg Int32.toInt c_4
    refine lv_iconst (v := (-1 : Int32)) hx hb dX9_back_9 (by decide) ?_
    subst hR
    exact W.iret (v := (-1 : Int32)) hx hb hr (fun t ht hW9 => ⟨⟨(-1 : Int32), Ω, rfl, ⟨rfl, h_p0, hE⟩, by rw [oB, ht]; exact hW⟩, hS.F ht⟩) hS.2.2 dX9_back_10
set_option maxHeartbeats 4000000 in
set_option maxRecDepth 100000 in
theorem c_X9_fieldBits (l : Launch) (G : Gm) (A : Nat → Prop) (Ω : Om) (p0 : Nat) (p0_0 : Fn) (p0_1 : Fn) (p0_2 : Fn) (p0_3 : Fn) (p0_4 : Int32) (p0_5 : Fn) (p0_6 : Fn) (p0_7 : Fn) (p0_8 : Int32) (p0_9 : Int32) (p0_10 : Int32) (p0_11 : Int32) (p0_12 : Int32) (p0_13 : Int32) (hM_p0 : ToldInv p0_0) (h_p0 : inMod G Ω p0 p0_0 p0_1 p0_2 p0_3 p0_4 p0_5 p0_6 p0_7 p0_8 p0_9 p0_10 p0_11 p0_12 p0_13) : Met l yX9_fieldBits (wz yX9_fieldBits cX9_fieldBits 3 (some .int)) ({ frames := 1, cells := 0, slots := 0, locals := 20 } : Room) (va_Pc [.ref p0] (oS G A Ω)) (va_Qi (fun (r : Int32) (Ω1 : Om) => r = (f_X9_fieldBits p0_0) ∧ Ω1 = Ω) (oB G A) A) 0 0 A := by
  refine Met.ofW (cc := cX9_fieldBits) (maxL := 3) (ret := (some .int)) (by decide) rfl ?_
  intro p e s m args below meth c s₁ B hml hv
  obtain ⟨rfl, hW, hK, hN, hZ⟩ := hv
  have hx := B.exec
  have hb := B.bytes
  have hr := B.returns
  have hts : ∀ w ∈ gt, w.before _ s = true := fun w hw => atoms_spec (ws := wz yX9_fieldBits cX9_fieldBits 3 (some .int)) B.pre w (List.mem_cons_of_mem _ hw)
  have hown : s.vm.findClass RX9 = some m.cls := findClass_of_methodNamed B.named
  have hlocks := B.notSynchronized
  have hA : ∀ q, A q → A q := fun _ h => h
  have hS : va_S A s.heap s.heap [] := va_S.rf
  have hS0 := hS
  have hl := lv_entry ([.ref p0]) (n := 3) (Nat.le_of_ble_eq_true rfl)
  rw [lg_entry_eq]
  generalize (lg_sl ([.ref p0]) ++ List.replicate (3 - (lg_sl ([.ref p0])).length) Slot.unset).toArray = ls at hl ⊢
  have hl : lv_has ls 3 [(0, .ref p0)] := hl
  generalize hR : (f_X9_fieldBits p0_0) = R
  rw [f_X9_fieldBits] at hR
  refine lv_iconst (v := (0 : Int32)) hx hb dX9_fieldBits_0 (by decide) ?_
  refine lv_istore_n (lv' := [(1, .int (0 : Int32)), (0, .ref p0)]) hx hb dX9_fieldBits_1 rfl hl (by decide) rfl (fun ls hl => ?_)
  refine lv_iconst (v := (0 : Int32)) hx hb dX9_fieldBits_2 (by decide) ?_
  refine lv_istore_n (lv' := [(2, .int (0 : Int32)), (1, .int (0 : Int32)), (0, .ref p0)]) hx hb dX9_fieldBits_3 rfl hl (by decide) rfl (fun ls hl => ?_)
  have L4 : ∀ (n_2 : Nat) (x1_1 : Int32) (x2_1 : Int32) (H : Heap) (locs : List Loc), (0 ≤ x2_1.toInt ∧ x2_1.toInt ≤ 12 ∧ 12 - x2_1.toInt < n_2) → oW G A Ω H → va_S A s.heap H locs → ∀ ls : Array Slot, lv_has ls 3 [(0, .ref p0), (1, .int x1_1), (2, .int x2_1)] → (f_X9_fieldBits_L4 p0_0 n_2 x1_1 x2_1) = R → W p l e (headSpec (wz yX9_fieldBits cX9_fieldBits 3 (some .int)) ({ frames := 1, cells := 0, slots := 0, locals := 20 } : Room)).room s m ([.ref p0] : List Value).toArray below meth c H locs 0 0 (MQ below (va_Qi (fun (r : Int32) (Ω1 : Om) => r = R ∧ Ω1 = Ω) (oB G A) A) ([.ref p0] : List Value).toArray s 0 0 A) (F0 m 4 ls []) := by
    intro n_2
    induction n_2 with
    | zero =>
      intro x1_1 x2_1 H locs v_4_0 hW hS ls hl hR
      exfalso
      omega
    | succ n_2 ih4 =>
      intro x1_1 x2_1 H locs v_4_0 hW hS ls hl hR
      rw [f_X9_fieldBits_L4] at hR
      refine lv_iload_n hx hb dX9_fieldBits_4 rfl (lv_at hl 2 rfl) ?_
      refine lv_aload_n hx hb dX9_fieldBits_5 rfl (lv_at hl 0 rfl) ?_
      refine o_ViR (rest := [.int x2_1]) (As := []) (n := 0) hx hb hml hown hts hK hN hZ hW hS hA (c_X9_fields l G A Ω p0 p0_0 p0_1 p0_2 p0_3 p0_4 p0_5 p0_6 p0_7 p0_8 p0_9 p0_10 p0_11 p0_12 p0_13 hM_p0 h_p0) (inMod_o h_p0) rfl (good_V ml_X9_35 im_X9_fields se_X9_fields ini_X9 co_X9_fields) (by decide +kernel) ⟨Nat.zero_le _, Nat.zero_le _⟩ hl.1 (Nat.le_of_ble_eq_true rfl) rfl rfl dX9_fieldBits_6 (fun r H locs hp hW hS => ?_)
      subst hp
      try have j_5 : 0 ≤ (f_X9_fields p0_0).toInt ∧ (f_X9_fields p0_0).toInt ≤ 12 := TI_91 hM_p0
      refine lv_icmp_ge (tgt := 42) hx hb dX9_fieldBits_9 (by decide) (fun c_4 => ?_) (fun c_4 => ?_)
      · rw [if_pos c_4] at hR
        have i_4 := rle c_4
        refine lv_iload_n hx hb dX9_fieldBits_42 rfl (lv_at hl 1 rfl) ?_
        subst hR
        exact W.iret (v := x1_1) hx hb hr (fun t ht hW9 => ⟨⟨x1_1, Ω, rfl, ⟨rfl, rfl⟩, by rw [oB, ht]; exact hW⟩, hS.F ht⟩) hS.2.2 dX9_fieldBits_43
      · rw [if_neg c_4] at hR
        have i_4 := rnle c_4
        refine lv_iload_n hx hb dX9_fieldBits_12 rfl (lv_at hl 1 rfl) ?_
        refine lv_aload_n hx hb dX9_fieldBits_13 rfl (lv_at hl 0 rfl) ?_
        refine o_get hx hb hts hown hK hW (inMod_o h_p0) rfl ig9 0 (by decide) fl_X9_7 rfl dX9_fieldBits_14 ?_
        refine lv_bipush (v := (42 : Int32)) hx hb dX9_fieldBits_17 (by decide) ?_
        refine lv_iload_n hx hb dX9_fieldBits_19 rfl (lv_at hl 2 rfl) ?_
        refine lv_iadd hx hb dX9_fieldBits_20 ?_
        have j_6 : (42 : Int32).toInt = 42 := by decide
        try have j_7 : ((42 : Int32) + x2_1).toInt = (42 : Int32).toInt + x2_1.toInt := fb_addI (by omega) (by omega)
        refine o_iald hx hb hK hW (inMod_a0 h_p0) (vp_in_iff.mpr ⟨by omega, by omega⟩) dX9_fieldBits_21 ?_
        refine lv_aload_n hx hb dX9_fieldBits_22 rfl (lv_at hl 0 rfl) ?_
        refine o_get hx hb hts hown hK hW (inMod_o h_p0) rfl ig9 0 (by decide) fl_X9_7 rfl dX9_fieldBits_23 ?_
        refine lv_bipush (v := (30 : Int32)) hx hb dX9_fieldBits_26 (by decide) ?_
        refine lv_iload_n hx hb dX9_fieldBits_28 rfl (lv_at hl 2 rfl) ?_
        refine lv_iadd hx hb dX9_fieldBits_29 ?_
        have j_8 : (30 : Int32).toInt = 30 := by decide
        try have j_9 : ((30 : Int32) + x2_1).toInt = (30 : Int32).toInt + x2_1.toInt := fb_addI (by omega) (by omega)
        refine o_iald hx hb hK hW (inMod_a0 h_p0) (vp_in_iff.mpr ⟨by omega, by omega⟩) dX9_fieldBits_30 ?_
        refine lv_isub hx hb dX9_fieldBits_31 ?_
        refine lv_iconst (v := (1 : Int32)) hx hb dX9_fieldBits_32 (by decide) ?_
        refine lv_iadd hx hb dX9_fieldBits_33 ?_
        refine lv_iadd hx hb dX9_fieldBits_34 ?_
        refine lv_istore_n (lv' := [(1, .int (x1_1 + (((p0_0 ((42 : Int32) + x2_1).toNatClampNeg) - (p0_0 ((30 : Int32) + x2_1).toNatClampNeg)) + (1 : Int32)))), (0, .ref p0), (2, .int x2_1)]) hx hb dX9_fieldBits_35 rfl hl (by decide) rfl (fun ls hl => ?_)
        refine lv_iinc (v := (x2_1 + (1 : Int32))) (lv' := [(2, .int (x2_1 + (1 : Int32))), (1, .int (x1_1 + (((p0_0 ((42 : Int32) + x2_1).toNatClampNeg) - (p0_0 ((30 : Int32) + x2_1).toNatClampNeg)) + (1 : Int32)))), (0, .ref p0)]) hx hb dX9_fieldBits_36 hl (k := 2) rfl rfl (by decide) rfl (fun ls hl => ?_)
        refine lv_goto (tgt := 4) hx hb dX9_fieldBits_39 (by decide) ?_
        try have j_10 : ((p0_0 ((42 : Int32) + x2_1).toNatClampNeg) - (p0_0 ((30 : Int32) + x2_1).toNatClampNeg)).toInt = (p0_0 ((42 : Int32) + x2_1).toNatClampNeg).toInt - (p0_0 ((30 : Int32) + x2_1).toNatClampNeg).toInt := fb_subI (by omega) (by omega)
        have j_11 : (1 : Int32).toInt = 1 := by decide
        try have j_12 : (((p0_0 ((42 : Int32) + x2_1).toNatClampNeg) - (p0_0 ((30 : Int32) + x2_1).toNatClampNeg)) + (1 : Int32)).toInt = ((p0_0 ((42 : Int32) + x2_1).toNatClampNeg) - (p0_0 ((30 : Int32) + x2_1).toNatClampNeg)).toInt + (1 : Int32).toInt := fb_addI (by omega) (by omega)
        try have j_13 : (x1_1 + (((p0_0 ((42 : Int32) + x2_1).toNatClampNeg) - (p0_0 ((30 : Int32) + x2_1).toNatClampNeg)) + (1 : Int32))).toInt = x1_1.toInt + (((p0_0 ((42 : Int32) + x2_1).toNatClampNeg) - (p0_0 ((30 : Int32) + x2_1).toNatClampNeg)) + (1 : Int32)).toInt := fb_addI (by omega) (by omega)
        try have j_14 : (x2_1 + (1 : Int32)).toInt = x2_1.toInt + (1 : Int32).toInt := fb_addI (by omega) (by omega)
        exact ih4 (x1_1 + (((p0_0 ((42 : Int32) + x2_1).toNatClampNeg) - (p0_0 ((30 : Int32) + x2_1).toNatClampNeg)) + (1 : Int32))) (x2_1 + (1 : Int32)) H locs (by omega) hW hS ls (lv_sub hl [2, 1, 0] rfl) hR
  have j_15 : (0 : Int32).toInt = 0 := by decide
  exact L4 4000 (0 : Int32) (0 : Int32) s.heap [] (by omega) hW hS ls (lv_sub hl [2, 1, 0] rfl) hR
set_option maxHeartbeats 4000000 in
set_option maxRecDepth 100000 in
theorem c_X9_brokenMany (l : Launch) (G : Gm) (A : Nat → Prop) (Ω : Om) (p0 : Nat) (p0_0 : Fn) (p0_1 : Fn) (p0_2 : Fn) (p0_3 : Fn) (p0_4 : Int32) (p0_5 : Fn) (p0_6 : Fn) (p0_7 : Fn) (p0_8 : Int32) (p0_9 : Int32) (p0_10 : Int32) (p0_11 : Int32) (p0_12 : Int32) (p0_13 : Int32) (hM_p0 : ToldInv p0_0) (h_p0 : inMod G Ω p0 p0_0 p0_1 p0_2 p0_3 p0_4 p0_5 p0_6 p0_7 p0_8 p0_9 p0_10 p0_11 p0_12 p0_13) : Met l yX9_brokenMany (wz yX9_brokenMany cX9_brokenMany 3 (some .int)) ({ frames := 1, cells := 0, slots := 0, locals := 20 } : Room) (va_Pc [.ref p0] (oS G A Ω)) (va_Qi (fun (r : Int32) (Ω1 : Om) => r = (f_X9_brokenMany p0_0 p0_2) ∧ Ω1 = Ω) (oB G A) A) 0 0 A := by
  refine Met.ofW (cc := cX9_brokenMany) (maxL := 3) (ret := (some .int)) (by decide) rfl ?_
  intro p e s m args below meth c s₁ B hml hv
  obtain ⟨rfl, hW, hK, hN, hZ⟩ := hv
  have hx := B.exec
  have hb := B.bytes
  have hr := B.returns
  have hts : ∀ w ∈ gt, w.before _ s = true := fun w hw => atoms_spec (ws := wz yX9_brokenMany cX9_brokenMany 3 (some .int)) B.pre w (List.mem_cons_of_mem _ hw)
  have hown : s.vm.findClass RX9 = some m.cls := findClass_of_methodNamed B.named
  have hlocks := B.notSynchronized
  have hA : ∀ q, A q → A q := fun _ h => h
  have hS : va_S A s.heap s.heap [] := va_S.rf
  have hS0 := hS
  have hl := lv_entry ([.ref p0]) (n := 3) (Nat.le_of_ble_eq_true rfl)
  rw [lg_entry_eq]
  generalize (lg_sl ([.ref p0]) ++ List.replicate (3 - (lg_sl ([.ref p0])).length) Slot.unset).toArray = ls at hl ⊢
  have hl : lv_has ls 3 [(0, .ref p0)] := hl
  generalize hR : (f_X9_brokenMany p0_0 p0_2) = R
  rw [f_X9_brokenMany] at hR
  refine lv_iconst (v := (0 : Int32)) hx hb dX9_brokenMany_0 (by decide) ?_
  refine lv_istore_n (lv' := [(1, .int (0 : Int32)), (0, .ref p0)]) hx hb dX9_brokenMany_1 rfl hl (by decide) rfl (fun ls hl => ?_)
  refine lv_iconst (v := (0 : Int32)) hx hb dX9_brokenMany_2 (by decide) ?_
  refine lv_istore_n (lv' := [(2, .int (0 : Int32)), (1, .int (0 : Int32)), (0, .ref p0)]) hx hb dX9_brokenMany_3 rfl hl (by decide) rfl (fun ls hl => ?_)
  have L4 : ∀ (n_2 : Nat) (x1_1 : Int32) (x2_1 : Int32) (H : Heap) (locs : List Loc), (0 ≤ x2_1.toInt ∧ x2_1.toInt ≤ 12 ∧ 12 - x2_1.toInt < n_2) → oW G A Ω H → va_S A s.heap H locs → ∀ ls : Array Slot, lv_has ls 3 [(0, .ref p0), (1, .int x1_1), (2, .int x2_1)] → (f_X9_brokenMany_L4 p0_0 p0_2 n_2 x1_1 x2_1) = R → W p l e (headSpec (wz yX9_brokenMany cX9_brokenMany 3 (some .int)) ({ frames := 1, cells := 0, slots := 0, locals := 20 } : Room)).room s m ([.ref p0] : List Value).toArray below meth c H locs 0 0 (MQ below (va_Qi (fun (r : Int32) (Ω1 : Om) => r = R ∧ Ω1 = Ω) (oB G A) A) ([.ref p0] : List Value).toArray s 0 0 A) (F0 m 4 ls []) := by
    intro n_2
    induction n_2 with
    | zero =>
      intro x1_1 x2_1 H locs v_4_0 hW hS ls hl hR
      exfalso
      omega
    | succ n_2 ih4 =>
      intro x1_1 x2_1 H locs v_4_0 hW hS ls hl hR
      rw [f_X9_brokenMany_L4] at hR
      refine lv_iload_n hx hb dX9_brokenMany_4 rfl (lv_at hl 2 rfl) ?_
      refine lv_aload_n hx hb dX9_brokenMany_5 rfl (lv_at hl 0 rfl) ?_
      refine o_ViR (rest := [.int x2_1]) (As := []) (n := 0) hx hb hml hown hts hK hN hZ hW hS hA (c_X9_fields l G A Ω p0 p0_0 p0_1 p0_2 p0_3 p0_4 p0_5 p0_6 p0_7 p0_8 p0_9 p0_10 p0_11 p0_12 p0_13 hM_p0 h_p0) (inMod_o h_p0) rfl (good_V ml_X9_35 im_X9_fields se_X9_fields ini_X9 co_X9_fields) (by decide +kernel) ⟨Nat.zero_le _, Nat.zero_le _⟩ hl.1 (Nat.le_of_ble_eq_true rfl) rfl rfl dX9_brokenMany_6 (fun r H locs hp hW hS => ?_)
      subst hp
      try have j_5 : 0 ≤ (f_X9_fields p0_0).toInt ∧ (f_X9_fields p0_0).toInt ≤ 12 := TI_91 hM_p0
      refine lv_icmp_ge (tgt := 47) hx hb dX9_brokenMany_9 (by decide) (fun c_4 => ?_) (fun c_4 => ?_)
      · rw [if_pos c_4] at hR
        have i_4 := rle c_4
        refine lv_iload_n hx hb dX9_brokenMany_47 rfl (lv_at hl 1 rfl) ?_
        subst hR
        exact W.iret (v := x1_1) hx hb hr (fun t ht hW9 => ⟨⟨x1_1, Ω, rfl, ⟨rfl, rfl⟩, by rw [oB, ht]; exact hW⟩, hS.F ht⟩) hS.2.2 dX9_brokenMany_48
      · rw [if_neg c_4] at hR
        have i_4 := rnle c_4
        refine lv_iload_n hx hb dX9_brokenMany_12 rfl (lv_at hl 1 rfl) ?_
        refine lv_aload_n hx hb dX9_brokenMany_13 rfl (lv_at hl 0 rfl) ?_
        refine o_get hx hb hts hown hK hW (inMod_o h_p0) rfl ig9 2 (by decide) fl_X9_16 rfl dX9_brokenMany_14 ?_
        refine lv_bipush (v := (12 : Int32)) hx hb dX9_brokenMany_17 (by decide) ?_
        refine lv_iload_n hx hb dX9_brokenMany_19 rfl (lv_at hl 2 rfl) ?_
        refine lv_iadd hx hb dX9_brokenMany_20 ?_
        have j_6 : (12 : Int32).toInt = 12 := by decide
        try have j_7 : ((12 : Int32) + x2_1).toInt = (12 : Int32).toInt + x2_1.toInt := fb_addI (by omega) (by omega)
        refine o_iald hx hb hK hW (inMod_a2 h_p0) (vp_in_iff.mpr ⟨by omega, by omega⟩) dX9_brokenMany_21 ?_
        refine lv_aload_n hx hb dX9_brokenMany_22 rfl (lv_at hl 0 rfl) ?_
        refine o_get hx hb hts hown hK hW (inMod_o h_p0) rfl ig9 0 (by decide) fl_X9_7 rfl dX9_brokenMany_23 ?_
        refine lv_bipush (v := (54 : Int32)) hx hb dX9_brokenMany_26 (by decide) ?_
        refine lv_iload_n hx hb dX9_brokenMany_28 rfl (lv_at hl 2 rfl) ?_
        refine lv_iadd hx hb dX9_brokenMany_29 ?_
        have j_8 : (54 : Int32).toInt = 54 := by decide
        try have j_9 : ((54 : Int32) + x2_1).toInt = (54 : Int32).toInt + x2_1.toInt := fb_addI (by omega) (by omega)
        refine o_iald hx hb hK hW (inMod_a0 h_p0) (vp_in_iff.mpr ⟨by omega, by omega⟩) dX9_brokenMany_30 ?_
        refine lv_icmp_ne (tgt := 38) hx hb dX9_brokenMany_31 (by decide) (fun c_10 => ?_) (fun c_10 => ?_)
        · rw [if_neg c_10] at hR
          have i_10 := rne c_10
          refine lv_iconst (v := (1 : Int32)) hx hb dX9_brokenMany_38 (by decide) ?_
          refine lv_iadd hx hb dX9_brokenMany_39 ?_
          refine lv_istore_n (lv' := [(1, .int (x1_1 + (1 : Int32))), (0, .ref p0), (2, .int x2_1)]) hx hb dX9_brokenMany_40 rfl hl (by decide) rfl (fun ls hl => ?_)
          refine lv_iinc (v := (x2_1 + (1 : Int32))) (lv' := [(2, .int (x2_1 + (1 : Int32))), (1, .int (x1_1 + (1 : Int32))), (0, .ref p0)]) hx hb dX9_brokenMany_41 hl (k := 2) rfl rfl (by decide) rfl (fun ls hl => ?_)
          refine lv_goto (tgt := 4) hx hb dX9_brokenMany_44 (by decide) ?_
          have j_11 : (1 : Int32).toInt = 1 := by decide
          try have j_12 : (x1_1 + (1 : Int32)).toInt = x1_1.toInt + (1 : Int32).toInt := fb_addI (by omega) (by omega)
          try have j_13 : (x2_1 + (1 : Int32)).toInt = x2_1.toInt + (1 : Int32).toInt := fb_addI (by omega) (by omega)
          exact ih4 (x1_1 + (1 : Int32)) (x2_1 + (1 : Int32)) H locs (by omega) hW hS ls (lv_sub hl [2, 1, 0] rfl) hR
        · rw [if_pos c_10] at hR
          have i_10 := congrArg Int32.toInt c_10
          refine lv_iconst (v := (0 : Int32)) hx hb dX9_brokenMany_34 (by decide) ?_
          refine lv_goto (tgt := 39) hx hb dX9_brokenMany_35 (by decide) ?_
          refine lv_iadd hx hb dX9_brokenMany_39 ?_
          refine lv_istore_n (lv' := [(1, .int (x1_1 + (0 : Int32))), (0, .ref p0), (2, .int x2_1)]) hx hb dX9_brokenMany_40 rfl hl (by decide) rfl (fun ls hl => ?_)
          refine lv_iinc (v := (x2_1 + (1 : Int32))) (lv' := [(2, .int (x2_1 + (1 : Int32))), (1, .int (x1_1 + (0 : Int32))), (0, .ref p0)]) hx hb dX9_brokenMany_41 hl (k := 2) rfl rfl (by decide) rfl (fun ls hl => ?_)
          refine lv_goto (tgt := 4) hx hb dX9_brokenMany_44 (by decide) ?_
          have j_14 : (0 : Int32).toInt = 0 := by decide
          try have j_15 : (x1_1 + (0 : Int32)).toInt = x1_1.toInt + (0 : Int32).toInt := fb_addI (by omega) (by omega)
          have j_16 : (1 : Int32).toInt = 1 := by decide
          try have j_17 : (x2_1 + (1 : Int32)).toInt = x2_1.toInt + (1 : Int32).toInt := fb_addI (by omega) (by omega)
          exact ih4 (x1_1 + (0 : Int32)) (x2_1 + (1 : Int32)) H locs (by omega) hW hS ls (lv_sub hl [2, 1, 0] rfl) hR
  have j_18 : (0 : Int32).toInt = 0 := by decide
  exact L4 4000 (0 : Int32) (0 : Int32) s.heap [] (by omega) hW hS ls (lv_sub hl [2, 1, 0] rfl) hR
set_option maxHeartbeats 4000000 in
set_option maxRecDepth 100000 in
theorem c_X9_count (l : Launch) (G : Gm) (A : Nat → Prop) (Ω : Om) (p0 : Nat) (p0_0 : Fn) (p0_1 : Fn) (p0_2 : Fn) (p0_3 : Fn) (p0_4 : Int32) (p0_5 : Fn) (p0_6 : Fn) (p0_7 : Fn) (p0_8 : Int32) (p0_9 : Int32) (p0_10 : Int32) (p0_11 : Int32) (p0_12 : Int32) (p0_13 : Int32) (x1 : Int32) (hM_p0 : ToldInv p0_0) (h_p0 : inMod G Ω p0 p0_0 p0_1 p0_2 p0_3 p0_4 p0_5 p0_6 p0_7 p0_8 p0_9 p0_10 p0_11 p0_12 p0_13) : Met l yX9_count (wz yX9_count cX9_count 2 (some .int)) ({ frames := 2, cells := 0, slots := 0, locals := 42 } : Room) (va_Pc [.ref p0, .int x1] (oS G A Ω)) (va_Qi (fun (r : Int32) (Ω1 : Om) => r = (f_X9_count p0_0 p0_2 p0_4 p0_8 x1) ∧ Ω1 = Ω) (oB G A) A) 0 0 A := by
  refine Met.ofW (cc := cX9_count) (maxL := 2) (ret := (some .int)) (by decide) rfl ?_
  intro p e s m args below meth c s₁ B hml hv
  obtain ⟨rfl, hW, hK, hN, hZ⟩ := hv
  have hx := B.exec
  have hb := B.bytes
  have hr := B.returns
  have hts : ∀ w ∈ gt, w.before _ s = true := fun w hw => atoms_spec (ws := wz yX9_count cX9_count 2 (some .int)) B.pre w (List.mem_cons_of_mem _ hw)
  have hown : s.vm.findClass RX9 = some m.cls := findClass_of_methodNamed B.named
  have hlocks := B.notSynchronized
  have hA : ∀ q, A q → A q := fun _ h => h
  have hS : va_S A s.heap s.heap [] := va_S.rf
  have hS0 := hS
  have hl := lv_entry ([.ref p0, .int x1]) (n := 2) (Nat.le_of_ble_eq_true rfl)
  rw [lg_entry_eq]
  generalize (lg_sl ([.ref p0, .int x1]) ++ List.replicate (2 - (lg_sl ([.ref p0, .int x1])).length) Slot.unset).toArray = ls at hl ⊢
  have hl : lv_has ls 2 [(0, .ref p0), (1, .int x1)] := hl
  generalize hR : (f_X9_count p0_0 p0_2 p0_4 p0_8 x1) = R
  rw [f_X9_count] at hR
  refine lv_iload_n hx hb dX9_count_0 rfl (lv_at hl 1 rfl) ?_
  by_cases c_1 : x1 = (0 : Int32)
  · rw [if_pos c_1] at hR
    refine lv_tableIn (tgt := 48) hx hb dX9_count_1 (by rw [c_1]; decide) (by rw [c_1]; decide) (by rw [c_1]; rfl) (by decide) ?_
    have i_1 := congrArg Int32.toInt c_1
    have j_2 : (0 : Int32).toInt = 0 := by decide
    refine lv_aload_n hx hb dX9_count_48 rfl (lv_at hl 0 rfl) ?_
    refine o_ViR (rest := []) (As := []) (n := 0) hx hb hml hown hts hK hN hZ hW hS hA (c_X9_registers l G A Ω p0 p0_0 p0_1 p0_2 p0_3 p0_4 p0_5 p0_6 p0_7 p0_8 p0_9 p0_10 p0_11 p0_12 p0_13 hM_p0 h_p0) (inMod_o h_p0) rfl (good_V ml_X9_43 im_X9_registers se_X9_registers ini_X9 co_X9_registers) (by decide +kernel) ⟨Nat.zero_le _, Nat.zero_le _⟩ hl.1 (Nat.le_of_ble_eq_true rfl) rfl rfl dX9_count_49 (fun r H locs hp hW hS => ?_)
    subst hp
    subst hR
    exact W.iret (v := (f_X9_registers p0_0)) hx hb hr (fun t ht hW9 => ⟨⟨(f_X9_registers p0_0), Ω, rfl, ⟨rfl, rfl⟩, by rw [oB, ht]; exact hW⟩, hS.F ht⟩) hS.2.2 dX9_count_52
  rw [if_neg c_1] at hR
  by_cases c_4 : x1 = (1 : Int32)
  · rw [if_pos c_4] at hR
    refine lv_tableIn (tgt := 53) hx hb dX9_count_1 (by rw [c_4]; decide) (by rw [c_4]; decide) (by rw [c_4]; rfl) (by decide) ?_
    have i_4 := congrArg Int32.toInt c_4
    refine lv_aload_n hx hb dX9_count_53 rfl (lv_at hl 0 rfl) ?_
    refine o_ViR (rest := []) (As := []) (n := 0) hx hb hml hown hts hK hN hZ hW hS hA (c_X9_fields l G A Ω p0 p0_0 p0_1 p0_2 p0_3 p0_4 p0_5 p0_6 p0_7 p0_8 p0_9 p0_10 p0_11 p0_12 p0_13 hM_p0 h_p0) (inMod_o h_p0) rfl (good_V ml_X9_35 im_X9_fields se_X9_fields ini_X9 co_X9_fields) (by decide +kernel) ⟨Nat.zero_le _, Nat.zero_le _⟩ hl.1 (Nat.le_of_ble_eq_true rfl) rfl rfl dX9_count_54 (fun r H locs hp hW hS => ?_)
    subst hp
    subst hR
    exact W.iret (v := (f_X9_fields p0_0)) hx hb hr (fun t ht hW9 => ⟨⟨(f_X9_fields p0_0), Ω, rfl, ⟨rfl, rfl⟩, by rw [oB, ht]; exact hW⟩, hS.F ht⟩) hS.2.2 dX9_count_57
  rw [if_neg c_4] at hR
  by_cases c_6 : x1 = (2 : Int32)
  · rw [if_pos c_6] at hR
    refine lv_tableIn (tgt := 58) hx hb dX9_count_1 (by rw [c_6]; decide) (by rw [c_6]; decide) (by rw [c_6]; rfl) (by decide) ?_
    have i_6 := congrArg Int32.toInt c_6
    refine lv_aload_n hx hb dX9_count_58 rfl (lv_at hl 0 rfl) ?_
    refine o_get hx hb hts hown hK hW (inMod_o h_p0) rfl ig9 0 (by decide) fl_X9_7 rfl dX9_count_59 ?_
    refine lv_bipush (v := (92 : Int32)) hx hb dX9_count_62 (by decide) ?_
    have j_7 : (92 : Int32).toInt = 92 := by decide
    refine o_iald hx hb hK hW (inMod_a0 h_p0) (vp_in_iff.mpr ⟨by omega, by omega⟩) dX9_count_64 ?_
    subst hR
    exact W.iret (v := (p0_0 (92 : Int32).toNatClampNeg)) hx hb hr (fun t ht hW9 => ⟨⟨(p0_0 (92 : Int32).toNatClampNeg), Ω, rfl, ⟨rfl, rfl⟩, by rw [oB, ht]; exact hW⟩, hS.F ht⟩) hS.2.2 dX9_count_65
  rw [if_neg c_6] at hR
  by_cases c_8 : x1 = (3 : Int32)
  · rw [if_pos c_8] at hR
    refine lv_tableIn (tgt := 66) hx hb dX9_count_1 (by rw [c_8]; decide) (by rw [c_8]; decide) (by rw [c_8]; rfl) (by decide) ?_
    have i_8 := congrArg Int32.toInt c_8
    refine lv_aload_n hx hb dX9_count_66 rfl (lv_at hl 0 rfl) ?_
    refine o_ViR (rest := []) (As := []) (n := 0) hx hb hml hown hts hK hN hZ hW hS hA (c_X9_fieldBits l G A Ω p0 p0_0 p0_1 p0_2 p0_3 p0_4 p0_5 p0_6 p0_7 p0_8 p0_9 p0_10 p0_11 p0_12 p0_13 hM_p0 h_p0) (inMod_o h_p0) rfl (good_V ml_X9_141 im_X9_fieldBits se_X9_fieldBits ini_X9 co_X9_fieldBits) (by decide +kernel) ⟨Nat.zero_le _, Nat.zero_le _⟩ hl.1 (Nat.le_of_ble_eq_true rfl) rfl rfl dX9_count_67 (fun r H locs hp hW hS => ?_)
    subst hp
    subst hR
    exact W.iret (v := (f_X9_fieldBits p0_0)) hx hb hr (fun t ht hW9 => ⟨⟨(f_X9_fieldBits p0_0), Ω, rfl, ⟨rfl, rfl⟩, by rw [oB, ht]; exact hW⟩, hS.F ht⟩) hS.2.2 dX9_count_70
  rw [if_neg c_8] at hR
  by_cases c_10 : x1 = (4 : Int32)
  · rw [if_pos c_10] at hR
    refine lv_tableIn (tgt := 71) hx hb dX9_count_1 (by rw [c_10]; decide) (by rw [c_10]; decide) (by rw [c_10]; rfl) (by decide) ?_
    have i_10 := congrArg Int32.toInt c_10
    refine lv_aload_n hx hb dX9_count_71 rfl (lv_at hl 0 rfl) ?_
    refine o_get hx hb hts hown hK hW (inMod_o h_p0) rfl ig9 2 (by decide) fl_X9_16 rfl dX9_count_72 ?_
    refine lv_bipush (v := (72 : Int32)) hx hb dX9_count_75 (by decide) ?_
    have j_11 : (72 : Int32).toInt = 72 := by decide
    refine o_iald hx hb hK hW (inMod_a2 h_p0) (vp_in_iff.mpr ⟨by omega, by omega⟩) dX9_count_77 ?_
    subst hR
    exact W.iret (v := (p0_2 (72 : Int32).toNatClampNeg)) hx hb hr (fun t ht hW9 => ⟨⟨(p0_2 (72 : Int32).toNatClampNeg), Ω, rfl, ⟨rfl, rfl⟩, by rw [oB, ht]; exact hW⟩, hS.F ht⟩) hS.2.2 dX9_count_78
  rw [if_neg c_10] at hR
  by_cases c_12 : x1 = (5 : Int32)
  · rw [if_pos c_12] at hR
    refine lv_tableIn (tgt := 79) hx hb dX9_count_1 (by rw [c_12]; decide) (by rw [c_12]; decide) (by rw [c_12]; rfl) (by decide) ?_
    have i_12 := congrArg Int32.toInt c_12
    refine lv_aload_n hx hb dX9_count_79 rfl (lv_at hl 0 rfl) ?_
    refine o_ViR (rest := []) (As := []) (n := 0) hx hb hml hown hts hK hN hZ hW hS hA (c_X9_brokenMany l G A Ω p0 p0_0 p0_1 p0_2 p0_3 p0_4 p0_5 p0_6 p0_7 p0_8 p0_9 p0_10 p0_11 p0_12 p0_13 hM_p0 h_p0) (inMod_o h_p0) rfl (good_V ml_X9_144 im_X9_brokenMany se_X9_brokenMany ini_X9 co_X9_brokenMany) (by decide +kernel) ⟨Nat.zero_le _, Nat.zero_le _⟩ hl.1 (Nat.le_of_ble_eq_true rfl) rfl rfl dX9_count_80 (fun r H locs hp hW hS => ?_)
    subst hp
    subst hR
    exact W.iret (v := (f_X9_brokenMany p0_0 p0_2)) hx hb hr (fun t ht hW9 => ⟨⟨(f_X9_brokenMany p0_0 p0_2), Ω, rfl, ⟨rfl, rfl⟩, by rw [oB, ht]; exact hW⟩, hS.F ht⟩) hS.2.2 dX9_count_83
  rw [if_neg c_12] at hR
  by_cases c_14 : x1 = (6 : Int32)
  · rw [if_pos c_14] at hR
    refine lv_tableIn (tgt := 84) hx hb dX9_count_1 (by rw [c_14]; decide) (by rw [c_14]; decide) (by rw [c_14]; rfl) (by decide) ?_
    have i_14 := congrArg Int32.toInt c_14
    refine lv_aload_n hx hb dX9_count_84 rfl (lv_at hl 0 rfl) ?_
    refine o_get hx hb hts hown hK hW (inMod_o h_p0) rfl ig9 8 (by decide) fl_X9_147 rfl dX9_count_85 ?_
    subst hR
    exact W.iret (v := p0_8) hx hb hr (fun t ht hW9 => ⟨⟨p0_8, Ω, rfl, ⟨rfl, rfl⟩, by rw [oB, ht]; exact hW⟩, hS.F ht⟩) hS.2.2 dX9_count_88
  rw [if_neg c_14] at hR
  by_cases c_15 : x1 = (7 : Int32)
  · rw [if_pos c_15] at hR
    refine lv_tableIn (tgt := 89) hx hb dX9_count_1 (by rw [c_15]; decide) (by rw [c_15]; decide) (by rw [c_15]; rfl) (by decide) ?_
    have i_15 := congrArg Int32.toInt c_15
    refine lv_aload_n hx hb dX9_count_89 rfl (lv_at hl 0 rfl) ?_
    refine o_get hx hb hts hown hK hW (inMod_o h_p0) rfl ig9 4 (by decide) fl_X9_60 rfl dX9_count_90 ?_
    subst hR
    exact W.iret (v := p0_4) hx hb hr (fun t ht hW9 => ⟨⟨p0_4, Ω, rfl, ⟨rfl, rfl⟩, by rw [oB, ht]; exact hW⟩, hS.F ht⟩) hS.2.2 dX9_count_93
  rw [if_neg c_15] at hR
  have i_1 := lv_neT c_1 (a := 0) rfl
  have i_4 := lv_neT c_4 (a := 1) rfl
  have i_6 := lv_neT c_6 (a := 2) rfl
  have i_8 := lv_neT c_8 (a := 3) rfl
  have i_10 := lv_neT c_10 (a := 4) rfl
  have i_12 := lv_neT c_12 (a := 5) rfl
  have i_14 := lv_neT c_14 (a := 6) rfl
  have i_15 := lv_neT c_15 (a := 7) rfl
  refine lv_tableOut (tgt := 94) hx hb dX9_count_1 (by omega) (by decide) ?_
  refine lv_iconst (v := (-1 : Int32)) hx hb dX9_count_94 (by decide) ?_
  subst hR
  exact W.iret (v := (-1 : Int32)) hx hb hr (fun t ht hW9 => ⟨⟨(-1 : Int32), Ω, rfl, ⟨rfl, rfl⟩, by rw [oB, ht]; exact hW⟩, hS.F ht⟩) hS.2.2 dX9_count_95
set_option maxHeartbeats 4000000 in
set_option maxRecDepth 100000 in
theorem c_X9_type (l : Launch) (G : Gm) (A : Nat → Prop) (Ω : Om) (p0 : Nat) (p0_0 : Fn) (p0_1 : Fn) (p0_2 : Fn) (p0_3 : Fn) (p0_4 : Int32) (p0_5 : Fn) (p0_6 : Fn) (p0_7 : Fn) (p0_8 : Int32) (p0_9 : Int32) (p0_10 : Int32) (p0_11 : Int32) (p0_12 : Int32) (p0_13 : Int32) (x1 : Int32) (hy : 0 ≤ p0_8.toInt ∧ p0_8.toInt ≤ 160) (h_p0 : inMod G Ω p0 p0_0 p0_1 p0_2 p0_3 p0_4 p0_5 p0_6 p0_7 p0_8 p0_9 p0_10 p0_11 p0_12 p0_13) : Met l yX9_type (wz yX9_type cX9_type 2 (some .int)) ({ frames := 1, cells := 0, slots := 0, locals := 22 } : Room) (va_Pc [.ref p0, .int x1] (oS G A Ω)) (va_Qi (fun (r : Int32) (Ω1 : Om) => r = (f_X9_type p0_7 p0_8 x1).1 ∧ inMod G Ω1 p0 p0_0 p0_1 p0_2 p0_3 p0_4 p0_5 p0_6 ((f_X9_type p0_7 p0_8 x1).2.1) ((f_X9_type p0_7 p0_8 x1).2.2) p0_9 p0_10 p0_11 p0_12 p0_13 ∧ (∀ q : Nat, (q < p0 ∨ p0 + 8 ≤ q) → Ω1 q = Ω q)) (oB G A) A) 0 0 A := by
  refine Met.ofW (cc := cX9_type) (maxL := 2) (ret := (some .int)) (by decide) rfl ?_
  intro p e s m args below meth c s₁ B hml hv
  obtain ⟨rfl, hW, hK, hN, hZ⟩ := hv
  have hx := B.exec
  have hb := B.bytes
  have hr := B.returns
  have hts : ∀ w ∈ gt, w.before _ s = true := fun w hw => atoms_spec (ws := wz yX9_type cX9_type 2 (some .int)) B.pre w (List.mem_cons_of_mem _ hw)
  have hown : s.vm.findClass RX9 = some m.cls := findClass_of_methodNamed B.named
  have hlocks := B.notSynchronized
  have hA : ∀ q, A q → A q := fun _ h => h
  have hS : va_S A s.heap s.heap [] := va_S.rf
  have hS0 := hS
  have hl := lv_entry ([.ref p0, .int x1]) (n := 2) (Nat.le_of_ble_eq_true rfl)
  rw [lg_entry_eq]
  generalize (lg_sl ([.ref p0, .int x1]) ++ List.replicate (2 - (lg_sl ([.ref p0, .int x1])).length) Slot.unset).toArray = ls at hl ⊢
  have hl : lv_has ls 2 [(0, .ref p0), (1, .int x1)] := hl
  have hE : ∀ q : Nat, (q < p0 ∨ p0 + 8 ≤ q) → Ω q = Ω q := by intros; rfl
  generalize hR : (f_X9_type p0_7 p0_8 x1) = R
  rw [f_X9_type] at hR
  refine lv_iload_n hx hb dX9_type_0 rfl (lv_at hl 1 rfl) ?_
  refine lv_iconst (v := (0 : Int32)) hx hb dX9_type_1 (by decide) ?_
  refine lv_sipush (v := (255 : Int32)) hx hb dX9_type_2 (by decide) ?_
  have j_1 : (0 : Int32).toInt = 0 := by decide
  have j_2 : (255 : Int32).toInt = 255 := by decide
  refine o_SiR (rest := []) (As := [.int x1, .int (0 : Int32), .int (255 : Int32)]) (n := 3) hx hb hml hown hts hK hN hZ hW hS hA (c_X9_in l G A Ω x1 (0 : Int32) (255 : Int32)) ml_X9_39 st_X9_in ini_X9 co_X9_in (by decide +kernel) ⟨Nat.zero_le _, Nat.zero_le _⟩ hl.1 (Nat.le_of_ble_eq_true rfl) rfl rfl dX9_type_5 (fun r H locs hp hW hS => ?_)
  obtain ⟨rfl, hz_3⟩ := hp
  refine lv_if_ne (tgt := 13) hx hb dX9_type_8 (by decide) (fun c_4 => ?_) (fun c_4 => ?_)
  · rw [if_neg c_4] at hR
    have i_4 := rne c_4
    have b_c_4 := rIN c_4
    refine lv_aload_n hx hb dX9_type_13 rfl (lv_at hl 0 rfl) ?_
    refine o_get hx hb hts hown hK hW (inMod_o h_p0) rfl ig9 8 (by decide) fl_X9_147 rfl dX9_type_14 ?_
    refine lv_sipush (v := (160 : Int32)) hx hb dX9_type_17 (by decide) ?_
    have j_6 : (160 : Int32).toInt = 160 := by decide
    refine lv_icmp_ne (tgt := 26) hx hb dX9_type_20 (by decide) (fun c_5 => ?_) (fun c_5 => ?_)
    · rw [if_neg c_5] at hR
      have i_5 := rne c_5
      refine lv_aload_n hx hb dX9_type_26 rfl (lv_at hl 0 rfl) ?_
      refine o_get hx hb hts hown hK hW (inMod_o h_p0) rfl ig9 7 (by decide) fl_X9_29 rfl dX9_type_27 ?_
      refine lv_aload_n hx hb dX9_type_30 rfl (lv_at hl 0 rfl) ?_
      refine o_get hx hb hts hown hK hW (inMod_o h_p0) rfl ig9 8 (by decide) fl_X9_147 rfl dX9_type_31 ?_
      refine lv_iload_n hx hb dX9_type_34 rfl (lv_at hl 1 rfl) ?_
      refine wMod_6 hx hb hK hW hS hA h_p0 (vp_in_iff.mpr ⟨by omega, by omega⟩) dX9_type_35 (fun Ω_7 H locs h_p0 hF_7 hW hS => ?_)
      have hE : ∀ q : Nat, (q < p0 ∨ p0 + 8 ≤ q) → Ω_7 q = Ω q := fun q g0 => (hF_7 q (by omega)).trans (hE q g0)
      refine lv_aload_n hx hb dX9_type_36 rfl (lv_at hl 0 rfl) ?_
      refine lv_dup hx hb dX9_type_37 rfl ?_
      refine o_get hx hb hts hown hK hW (inMod_o h_p0) rfl ig9 8 (by decide) fl_X9_147 rfl dX9_type_38 ?_
      refine lv_iconst (v := (1 : Int32)) hx hb dX9_type_41 (by decide) ?_
      refine lv_iadd hx hb dX9_type_42 ?_
      refine vMod_8 hx hb hts hown hK hW hS hA h_p0 fl_X9_147 dX9_type_43 (fun Ω_8 H locs h_p0 hF_8 hW hS => ?_)
      have hE : ∀ q : Nat, (q < p0 ∨ p0 + 8 ≤ q) → Ω_8 q = Ω q := fun q g0 => (hF_8 q (by omega)).trans (hE q g0)
      refine lv_aload_n hx hb dX9_type_46 rfl (lv_at hl 0 rfl) ?_
      refine o_get hx hb hts hown hK hW (inMod_o h_p0) rfl ig9 8 (by decide) fl_X9_147 rfl dX9_type_47 ?_
      subst hR
      exact W.iret (v := (p0_8 + (1 : Int32))) hx hb hr (fun t ht hW9 => ⟨⟨(p0_8 + (1 : Int32)), Ω_8, rfl, ⟨rfl, h_p0, hE⟩, by rw [oB, ht]; exact hW⟩, hS.F ht⟩) hS.2.2 dX9_type_50
    · rw [if_pos c_5] at hR
      have i_5 := congrArg Int32.toInt c_5
      refine lv_bipush (v := (-3 : Int32)) hx hb dX9_type_23 (by decide) ?_
      subst hR
      exact W.iret (v := (-3 : Int32)) hx hb hr (fun t ht hW9 => ⟨⟨(-3 : Int32), Ω, rfl, ⟨rfl, h_p0, hE⟩, by rw [oB, ht]; exact hW⟩, hS.F ht⟩) hS.2.2 dX9_type_25
  · rw [if_pos c_4] at hR
    have i_4 := congrArg Int32.toInt c_4
    refine lv_iconst (v := (-1 : Int32)) hx hb dX9_type_11 (by decide) ?_
    subst hR
    exact W.iret (v := (-1 : Int32)) hx hb hr (fun t ht hW9 => ⟨⟨(-1 : Int32), Ω, rfl, ⟨rfl, h_p0, hE⟩, by rw [oB, ht]; exact hW⟩, hS.F ht⟩) hS.2.2 dX9_type_12
set_option maxHeartbeats 4000000 in
set_option maxRecDepth 100000 in
theorem c_X9_clear (l : Launch) (G : Gm) (A : Nat → Prop) (Ω : Om) (p0 : Nat) (p0_0 : Fn) (p0_1 : Fn) (p0_2 : Fn) (p0_3 : Fn) (p0_4 : Int32) (p0_5 : Fn) (p0_6 : Fn) (p0_7 : Fn) (p0_8 : Int32) (p0_9 : Int32) (p0_10 : Int32) (p0_11 : Int32) (p0_12 : Int32) (p0_13 : Int32) (h_p0 : inMod G Ω p0 p0_0 p0_1 p0_2 p0_3 p0_4 p0_5 p0_6 p0_7 p0_8 p0_9 p0_10 p0_11 p0_12 p0_13) : Met l yX9_clear (wz yX9_clear cX9_clear 2 (some .int)) ({ frames := 0, cells := 0, slots := 0, locals := 0 } : Room) (va_Pc [.ref p0] (oS G A Ω)) (va_Qi (fun (r : Int32) (Ω1 : Om) => r = (f_X9_clear p0_8).1 ∧ inMod G Ω1 p0 p0_0 p0_1 p0_2 p0_3 p0_4 p0_5 p0_6 p0_7 ((f_X9_clear p0_8).2) p0_9 p0_10 p0_11 p0_12 p0_13 ∧ (∀ q : Nat, (q < p0 ∨ p0 + 8 ≤ q) → Ω1 q = Ω q)) (oB G A) A) 0 0 A := by
  refine Met.ofW (cc := cX9_clear) (maxL := 2) (ret := (some .int)) (by decide) rfl ?_
  intro p e s m args below meth c s₁ B hml hv
  obtain ⟨rfl, hW, hK, hN, hZ⟩ := hv
  have hx := B.exec
  have hb := B.bytes
  have hr := B.returns
  have hts : ∀ w ∈ gt, w.before _ s = true := fun w hw => atoms_spec (ws := wz yX9_clear cX9_clear 2 (some .int)) B.pre w (List.mem_cons_of_mem _ hw)
  have hown : s.vm.findClass RX9 = some m.cls := findClass_of_methodNamed B.named
  have hlocks := B.notSynchronized
  have hA : ∀ q, A q → A q := fun _ h => h
  have hS : va_S A s.heap s.heap [] := va_S.rf
  have hS0 := hS
  have hl := lv_entry ([.ref p0]) (n := 2) (Nat.le_of_ble_eq_true rfl)
  rw [lg_entry_eq]
  generalize (lg_sl ([.ref p0]) ++ List.replicate (2 - (lg_sl ([.ref p0])).length) Slot.unset).toArray = ls at hl ⊢
  have hl : lv_has ls 2 [(0, .ref p0)] := hl
  have hE : ∀ q : Nat, (q < p0 ∨ p0 + 8 ≤ q) → Ω q = Ω q := by intros; rfl
  generalize hR : (f_X9_clear p0_8) = R
  rw [f_X9_clear] at hR
  refine lv_aload_n hx hb dX9_clear_0 rfl (lv_at hl 0 rfl) ?_
  refine o_get hx hb hts hown hK hW (inMod_o h_p0) rfl ig9 8 (by decide) fl_X9_147 rfl dX9_clear_1 ?_
  refine lv_istore_n (lv' := [(1, .int p0_8), (0, .ref p0)]) hx hb dX9_clear_4 rfl hl (by decide) rfl (fun ls hl => ?_)
  refine lv_aload_n hx hb dX9_clear_5 rfl (lv_at hl 1 rfl) ?_
  refine lv_iconst (v := (0 : Int32)) hx hb dX9_clear_6 (by decide) ?_
  refine vMod_8 hx hb hts hown hK hW hS hA h_p0 fl_X9_147 dX9_clear_7 (fun Ω_1 H locs h_p0 hF_1 hW hS => ?_)
  have hE : ∀ q : Nat, (q < p0 ∨ p0 + 8 ≤ q) → Ω_1 q = Ω q := fun q g0 => (hF_1 q (by omega)).trans (hE q g0)
  refine lv_iload_n hx hb dX9_clear_10 rfl (lv_at hl 0 rfl) ?_
  subst hR
  exact W.iret (v := p0_8) hx hb hr (fun t ht hW9 => ⟨⟨p0_8, Ω_1, rfl, ⟨rfl, h_p0, hE⟩, by rw [oB, ht]; exact hW⟩, hS.F ht⟩) hS.2.2 dX9_clear_11
set_option maxHeartbeats 4000000 in
set_option maxRecDepth 100000 in
theorem c_X9_isHere (l : Launch) (G : Gm) (A : Nat → Prop) (Ω : Om) (p0 : Nat) (p0_0 : Fn) (p0_1 : Fn) (p0_2 : Fn) (p0_3 : Fn) (p0_4 : Int32) (p0_5 : Fn) (p0_6 : Fn) (p0_7 : Fn) (p0_8 : Int32) (p0_9 : Int32) (p0_10 : Int32) (p0_11 : Int32) (p0_12 : Int32) (p0_13 : Int32) (x1 : Int32) (x2 : Int32) (hy : 0 ≤ p0_8.toInt ∧ p0_8.toInt ≤ 160) (ha : 0 ≤ p0_9.toInt ∧ p0_9.toInt ≤ p0_8.toInt) (h_p0 : inMod G Ω p0 p0_0 p0_1 p0_2 p0_3 p0_4 p0_5 p0_6 p0_7 p0_8 p0_9 p0_10 p0_11 p0_12 p0_13) : Met l yX9_isHere (wz yX9_isHere cX9_isHere 3 (some .boolean)) ({ frames := 1, cells := 0, slots := 0, locals := 22 } : Room) (va_Pc [.ref p0, .int x1, .int x2] (oS G A Ω)) (va_Qi (fun (r : Int32) (Ω1 : Om) => (r = (f_X9_isHere p0_7 p0_8 p0_9 x1 x2) ∧ (r = 0 ∨ r = 1)) ∧ Ω1 = Ω) (oB G A) A) 0 0 A := by
  refine Met.ofW (cc := cX9_isHere) (maxL := 3) (ret := (some .boolean)) (by decide) rfl ?_
  intro p e s m args below meth c s₁ B hml hv
  obtain ⟨rfl, hW, hK, hN, hZ⟩ := hv
  have hx := B.exec
  have hb := B.bytes
  have hr := B.returns
  have hts : ∀ w ∈ gt, w.before _ s = true := fun w hw => atoms_spec (ws := wz yX9_isHere cX9_isHere 3 (some .boolean)) B.pre w (List.mem_cons_of_mem _ hw)
  have hown : s.vm.findClass RX9 = some m.cls := findClass_of_methodNamed B.named
  have hlocks := B.notSynchronized
  have hA : ∀ q, A q → A q := fun _ h => h
  have hS : va_S A s.heap s.heap [] := va_S.rf
  have hS0 := hS
  have hl := lv_entry ([.ref p0, .int x1, .int x2]) (n := 3) (Nat.le_of_ble_eq_true rfl)
  rw [lg_entry_eq]
  generalize (lg_sl ([.ref p0, .int x1, .int x2]) ++ List.replicate (3 - (lg_sl ([.ref p0, .int x1, .int x2])).length) Slot.unset).toArray = ls at hl ⊢
  have hl : lv_has ls 3 [(0, .ref p0), (1, .int x1), (2, .int x2)] := hl
  generalize hR : (f_X9_isHere p0_7 p0_8 p0_9 x1 x2) = R
  rw [f_X9_isHere] at hR
  refine lv_aload_n hx hb dX9_isHere_0 rfl (lv_at hl 0 rfl) ?_
  refine o_get hx hb hts hown hK hW (inMod_o h_p0) rfl ig9 9 (by decide) fl_X9_150 rfl dX9_isHere_1 ?_
  refine lv_aload_n hx hb dX9_isHere_4 rfl (lv_at hl 0 rfl) ?_
  refine o_get hx hb hts hown hK hW (inMod_o h_p0) rfl ig9 8 (by decide) fl_X9_147 rfl dX9_isHere_5 ?_
  refine lv_icmp_ge (tgt := 32) hx hb dX9_isHere_8 (by decide) (fun c_1 => ?_) (fun c_1 => ?_)
  · rw [if_pos c_1] at hR
    have i_1 := rle c_1
    refine lv_iconst (v := (0 : Int32)) hx hb dX9_isHere_32 (by decide) ?_
    subst hR
    exact W.zret (v := (0 : Int32)) hx hb hr (nb01 (Or.inl rfl)) (fun t ht hW9 => ⟨⟨(0 : Int32), Ω, rfl, ⟨⟨rfl, (Or.inl rfl)⟩, rfl⟩, by rw [oB, ht]; exact hW⟩, hS.F ht⟩) hS.2.2 dX9_isHere_33
  · rw [if_neg c_1] at hR
    have i_1 := rnle c_1
    refine lv_aload_n hx hb dX9_isHere_11 rfl (lv_at hl 0 rfl) ?_
    refine o_get hx hb hts hown hK hW (inMod_o h_p0) rfl ig9 7 (by decide) fl_X9_29 rfl dX9_isHere_12 ?_
    refine lv_aload_n hx hb dX9_isHere_15 rfl (lv_at hl 0 rfl) ?_
    refine o_get hx hb hts hown hK hW (inMod_o h_p0) rfl ig9 9 (by decide) fl_X9_150 rfl dX9_isHere_16 ?_
    refine o_iald hx hb hK hW (inMod_a6 h_p0) (vp_in_iff.mpr ⟨by omega, by omega⟩) dX9_isHere_19 ?_
    refine lv_iload_n hx hb dX9_isHere_20 rfl (lv_at hl 1 rfl) ?_
    refine lv_iload_n hx hb dX9_isHere_21 rfl (lv_at hl 2 rfl) ?_
    refine o_SiR (rest := []) (As := [.int (p0_7 p0_9.toNatClampNeg), .int x1, .int x2]) (n := 3) hx hb hml hown hts hK hN hZ hW hS hA (c_X9_in l G A Ω (p0_7 p0_9.toNatClampNeg) x1 x2) ml_X9_39 st_X9_in ini_X9 co_X9_in (by decide +kernel) ⟨Nat.zero_le _, Nat.zero_le _⟩ hl.1 (Nat.le_of_ble_eq_true rfl) rfl rfl dX9_isHere_22 (fun r H locs hp hW hS => ?_)
    obtain ⟨rfl, hz_2⟩ := hp
    have j_4 : (0 : Int32).toInt = 0 := by decide
    refine lv_if_eq (tgt := 32) hx hb dX9_isHere_25 (by decide) (fun c_3 => ?_) (fun c_3 => ?_)
    · rw [if_pos c_3] at hR
      have i_3 := congrArg Int32.toInt c_3
      refine lv_iconst (v := (0 : Int32)) hx hb dX9_isHere_32 (by decide) ?_
      subst hR
      exact W.zret (v := (0 : Int32)) hx hb hr (nb01 (Or.inl rfl)) (fun t ht hW9 => ⟨⟨(0 : Int32), Ω, rfl, ⟨⟨rfl, (Or.inl rfl)⟩, rfl⟩, by rw [oB, ht]; exact hW⟩, hS.F ht⟩) hS.2.2 dX9_isHere_33
    · rw [if_neg c_3] at hR
      have i_3 := rne c_3
      have b_c_3 := rIN c_3
      refine lv_iconst (v := (1 : Int32)) hx hb dX9_isHere_28 (by decide) ?_
      refine lv_goto (tgt := 33) hx hb dX9_isHere_29 (by decide) ?_
      subst hR
      exact W.zret (v := (1 : Int32)) hx hb hr (nb01 (Or.inr rfl)) (fun t ht hW9 => ⟨⟨(1 : Int32), Ω, rfl, ⟨⟨rfl, (Or.inr rfl)⟩, rfl⟩, by rw [oB, ht]; exact hW⟩, hS.F ht⟩) hS.2.2 dX9_isHere_33
set_option maxHeartbeats 4000000 in
set_option maxRecDepth 100000 in
theorem c_X9_kindOf (l : Launch) (G : Gm) (A : Nat → Prop) (Ω : Om) (x0 : Int32) : Met l yX9_kindOf (wz yX9_kindOf cX9_kindOf 1 (some .int)) ({ frames := 0, cells := 0, slots := 0, locals := 0 } : Room) (va_Pc [.int x0] (oS G A Ω)) (va_Qi (fun (r : Int32) (Ω1 : Om) => r = (f_X9_kindOf x0) ∧ Ω1 = Ω) (oB G A) A) 0 0 A := by
  refine Met.ofW (cc := cX9_kindOf) (maxL := 1) (ret := (some .int)) (by decide) rfl ?_
  intro p e s m args below meth c s₁ B hml hv
  obtain ⟨rfl, hW, hK, hN, hZ⟩ := hv
  have hx := B.exec
  have hb := B.bytes
  have hr := B.returns
  have hts : ∀ w ∈ gt, w.before _ s = true := fun w hw => atoms_spec (ws := wz yX9_kindOf cX9_kindOf 1 (some .int)) B.pre w (List.mem_cons_of_mem _ hw)
  have hown : s.vm.findClass RX9 = some m.cls := findClass_of_methodNamed B.named
  have hlocks := B.notSynchronized
  have hA : ∀ q, A q → A q := fun _ h => h
  have hS : va_S A s.heap s.heap [] := va_S.rf
  have hS0 := hS
  have hl := lv_entry ([.int x0]) (n := 1) (Nat.le_of_ble_eq_true rfl)
  rw [lg_entry_eq]
  generalize (lg_sl ([.int x0]) ++ List.replicate (1 - (lg_sl ([.int x0])).length) Slot.unset).toArray = ls at hl ⊢
  have hl : lv_has ls 1 [(0, .int x0)] := hl
  generalize hR : (f_X9_kindOf x0) = R
  rw [f_X9_kindOf] at hR
  refine lv_iload_n hx hb dX9_kindOf_0 rfl (lv_at hl 0 rfl) ?_
  by_cases c_1 : x0 = (28526 : Int32)
  · rw [if_pos c_1] at hR
    refine lv_lookup (tgt := 91) hx hb dX9_kindOf_1 (by decide) (by rw [c_1] <;> rfl) (by decide) ?_
    have i_1 := congrArg Int32.toInt c_1
    refine lv_bipush (v := (7 : Int32)) hx hb dX9_kindOf_91 (by decide) ?_
    subst hR
    exact W.iret (v := (7 : Int32)) hx hb hr (fun t ht hW9 => ⟨⟨(7 : Int32), Ω, rfl, ⟨rfl, rfl⟩, by rw [oB, ht]; exact hW⟩, hS.F ht⟩) hS.2.2 dX9_kindOf_93
  rw [if_neg c_1] at hR
  by_cases c_2 : x0 = (29283 : Int32)
  · rw [if_pos c_2] at hR
    refine lv_lookup (tgt := 88) hx hb dX9_kindOf_1 (by decide) (by rw [c_2] <;> rfl) (by decide) ?_
    have i_2 := congrArg Int32.toInt c_2
    refine lv_bipush (v := (6 : Int32)) hx hb dX9_kindOf_88 (by decide) ?_
    subst hR
    exact W.iret (v := (6 : Int32)) hx hb hr (fun t ht hW9 => ⟨⟨(6 : Int32), Ω, rfl, ⟨rfl, rfl⟩, by rw [oB, ht]; exact hW⟩, hS.F ht⟩) hS.2.2 dX9_kindOf_90
  rw [if_neg c_2] at hR
  by_cases c_3 : x0 = (29295 : Int32)
  · rw [if_pos c_3] at hR
    refine lv_lookup (tgt := 78) hx hb dX9_kindOf_1 (by decide) (by rw [c_3] <;> rfl) (by decide) ?_
    have i_3 := congrArg Int32.toInt c_3
    refine lv_iconst (v := (1 : Int32)) hx hb dX9_kindOf_78 (by decide) ?_
    subst hR
    exact W.iret (v := (1 : Int32)) hx hb hr (fun t ht hW9 => ⟨⟨(1 : Int32), Ω, rfl, ⟨rfl, rfl⟩, by rw [oB, ht]; exact hW⟩, hS.F ht⟩) hS.2.2 dX9_kindOf_79
  rw [if_neg c_3] at hR
  by_cases c_4 : x0 = (29303 : Int32)
  · rw [if_pos c_4] at hR
    refine lv_lookup (tgt := 76) hx hb dX9_kindOf_1 (by decide) (by rw [c_4] <;> rfl) (by decide) ?_
    have i_4 := congrArg Int32.toInt c_4
    refine lv_iconst (v := (0 : Int32)) hx hb dX9_kindOf_76 (by decide) ?_
    subst hR
    exact W.iret (v := (0 : Int32)) hx hb hr (fun t ht hW9 => ⟨⟨(0 : Int32), Ω, rfl, ⟨rfl, rfl⟩, by rw [oB, ht]; exact hW⟩, hS.F ht⟩) hS.2.2 dX9_kindOf_77
  rw [if_neg c_4] at hR
  by_cases c_5 : x0 = (30563 : Int32)
  · rw [if_pos c_5] at hR
    refine lv_lookup (tgt := 82) hx hb dX9_kindOf_1 (by decide) (by rw [c_5] <;> rfl) (by decide) ?_
    have i_5 := congrArg Int32.toInt c_5
    refine lv_iconst (v := (3 : Int32)) hx hb dX9_kindOf_82 (by decide) ?_
    subst hR
    exact W.iret (v := (3 : Int32)) hx hb hr (fun t ht hW9 => ⟨⟨(3 : Int32), Ω, rfl, ⟨rfl, rfl⟩, by rw [oB, ht]; exact hW⟩, hS.F ht⟩) hS.2.2 dX9_kindOf_83
  rw [if_neg c_5] at hR
  by_cases c_6 : x0 = (30575 : Int32)
  · rw [if_pos c_6] at hR
    refine lv_lookup (tgt := 80) hx hb dX9_kindOf_1 (by decide) (by rw [c_6] <;> rfl) (by decide) ?_
    have i_6 := congrArg Int32.toInt c_6
    refine lv_iconst (v := (2 : Int32)) hx hb dX9_kindOf_80 (by decide) ?_
    subst hR
    exact W.iret (v := (2 : Int32)) hx hb hr (fun t ht hW9 => ⟨⟨(2 : Int32), Ω, rfl, ⟨rfl, rfl⟩, by rw [oB, ht]; exact hW⟩, hS.F ht⟩) hS.2.2 dX9_kindOf_81
  rw [if_neg c_6] at hR
  by_cases c_7 : x0 = (30579 : Int32)
  · rw [if_pos c_7] at hR
    refine lv_lookup (tgt := 84) hx hb dX9_kindOf_1 (by decide) (by rw [c_7] <;> rfl) (by decide) ?_
    have i_7 := congrArg Int32.toInt c_7
    refine lv_iconst (v := (4 : Int32)) hx hb dX9_kindOf_84 (by decide) ?_
    subst hR
    exact W.iret (v := (4 : Int32)) hx hb hr (fun t ht hW9 => ⟨⟨(4 : Int32), Ω, rfl, ⟨rfl, rfl⟩, by rw [oB, ht]; exact hW⟩, hS.F ht⟩) hS.2.2 dX9_kindOf_85
  rw [if_neg c_7] at hR
  by_cases c_8 : x0 = (30580 : Int32)
  · rw [if_pos c_8] at hR
    refine lv_lookup (tgt := 86) hx hb dX9_kindOf_1 (by decide) (by rw [c_8] <;> rfl) (by decide) ?_
    have i_8 := congrArg Int32.toInt c_8
    refine lv_iconst (v := (5 : Int32)) hx hb dX9_kindOf_86 (by decide) ?_
    subst hR
    exact W.iret (v := (5 : Int32)) hx hb hr (fun t ht hW9 => ⟨⟨(5 : Int32), Ω, rfl, ⟨rfl, rfl⟩, by rw [oB, ht]; exact hW⟩, hS.F ht⟩) hS.2.2 dX9_kindOf_87
  rw [if_neg c_8] at hR
  have i_1 := lv_neT c_1 (a := 28526) rfl
  have i_2 := lv_neT c_2 (a := 29283) rfl
  have i_3 := lv_neT c_3 (a := 29295) rfl
  have i_4 := lv_neT c_4 (a := 29303) rfl
  have i_5 := lv_neT c_5 (a := 30563) rfl
  have i_6 := lv_neT c_6 (a := 30575) rfl
  have i_7 := lv_neT c_7 (a := 30579) rfl
  have i_8 := lv_neT c_8 (a := 30580) rfl
  refine lv_lookup (tgt := 94) (off := 93) hx hb dX9_kindOf_1 (by decide) (show Op.lookupswitch.offset [(28526, 90), (29283, 87), (29295, 77), (29303, 75), (30563, 81), (30575, 79), (30579, 83), (30580, 85)] 93 x0.toInt = 93 by rw [lv_osw (a := 28526) c_1 rfl, lv_osw (a := 29283) c_2 rfl, lv_osw (a := 29295) c_3 rfl, lv_osw (a := 29303) c_4 rfl, lv_osw (a := 30563) c_5 rfl, lv_osw (a := 30575) c_6 rfl, lv_osw (a := 30579) c_7 rfl, lv_osw (a := 30580) c_8 rfl]; rfl) (by decide) ?_
  refine lv_bipush (v := (-9 : Int32)) hx hb dX9_kindOf_94 (by decide) ?_
  subst hR
  exact W.iret (v := (-9 : Int32)) hx hb hr (fun t ht hW9 => ⟨⟨(-9 : Int32), Ω, rfl, ⟨rfl, rfl⟩, by rw [oB, ht]; exact hW⟩, hS.F ht⟩) hS.2.2 dX9_kindOf_96
