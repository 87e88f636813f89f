set_option maxHeartbeats 4000000 in
set_option maxRecDepth 100000 in
theorem c_X4_parse (l : Launch) (G : Gm) (A : Nat → Prop) (Ω : Om) (p0 : Nat) (p0k : Nat) (p0kt : Nat) (p0b : Nat) (p0k_0 : Int32) (p0k_1 : Int32) (p0k_2 : Int32) (p0kt_0 : Fn) (p0kt_1 : Int32) (p0b_0 : Blk) (hd_p0_p0k : p0 + 1 ≤ p0k ∨ p0k + 1 ≤ p0) (hd_p0_p0kt : p0 + 1 ≤ p0kt ∨ p0kt + 2 ≤ p0) (hd_p0_p0b : p0 + 1 ≤ p0b ∨ p0b + 13 ≤ p0) (hd_p0k_p0kt : p0k + 1 ≤ p0kt ∨ p0kt + 2 ≤ p0k) (hd_p0k_p0b : p0k + 1 ≤ p0b ∨ p0b + 13 ≤ p0k) (hd_p0kt_p0b : p0kt + 2 ≤ p0b ∨ p0b + 13 ≤ p0kt) (hT_p0kt : 0 ≤ p0kt_1.toInt ∧ p0kt_1.toInt ≤ 160) (hB_p0b : BlkInv p0b_0) (h_p0 : inPar G Ω p0 p0k p0b) (h_p0k : inTok G Ω p0k p0kt p0k_0 p0k_1 p0k_2) (h_p0kt : inTxt G Ω p0kt p0kt_0 p0kt_1) (h_p0b : inBlk G Ω p0b p0b_0) : Met l yX4_parse (wz yX4_parse cX4_parse 2 (some .int)) ({ frames := 5, cells := 0, slots := 0, locals := 110 } : Room) (va_Pc [.ref p0] (oS G A Ω)) (va_Qi (fun (r : Int32) (Ω1 : Om) => r = (f_X4_parse p0k_0 p0k_2 p0kt_0 p0kt_1 p0b_0).1 ∧ inTok G Ω1 p0k p0kt ((f_X4_parse p0k_0 p0k_2 p0kt_0 p0kt_1 p0b_0).2.1) ((f_X4_parse p0k_0 p0k_2 p0kt_0 p0kt_1 p0b_0).2.2.1) ((f_X4_parse p0k_0 p0k_2 p0kt_0 p0kt_1 p0b_0).2.2.2.1) ∧ inBlk G Ω1 p0b ((f_X4_parse p0k_0 p0k_2 p0kt_0 p0kt_1 p0b_0).2.2.2.2) ∧ (∀ q : Nat, (q < p0k ∨ p0k + 1 ≤ q) → (q < p0b ∨ p0b + 13 ≤ q) → Ω1 q = Ω q)) (oB G A) A) 0 0 A := by
  refine Met.ofW (cc := cX4_parse) (maxL := 2) (ret := (some .int)) (by decide) rfl ?_
  intro p e s m args below meth c s₁ B hml hv
  obtain ⟨rfl, hW, hK, hN, hZ⟩ := hv
  have hx := B.exec
  have hb := B.bytes
  have hr := B.returns
  have hts : ∀ w ∈ gt, w.before _ s = true := fun w hw => atoms_spec (ws := wz yX4_parse cX4_parse 2 (some .int)) B.pre w (List.mem_cons_of_mem _ hw)
  have hown : s.vm.findClass RX4 = some m.cls := findClass_of_methodNamed B.named
  have hlocks := B.notSynchronized
  have hA : ∀ q, A q → A q := fun _ h => h
  have hS : va_S A s.heap s.heap [] := va_S.rf
  have hS0 := hS
  have hl := lv_entry ([.ref p0]) (n := 2) (Nat.le_of_ble_eq_true rfl)
  rw [lg_entry_eq]
  generalize (lg_sl ([.ref p0]) ++ List.replicate (2 - (lg_sl ([.ref p0])).length) Slot.unset).toArray = ls at hl ⊢
  have hl : lv_has ls 2 [(0, .ref p0)] := hl
  have hE : ∀ q : Nat, (q < p0k ∨ p0k + 1 ≤ q) → (q < p0b ∨ p0b + 13 ≤ q) → Ω q = Ω q := by intros; rfl
  generalize hR : (f_X4_parse p0k_0 p0k_2 p0kt_0 p0kt_1 p0b_0) = R
  rw [f_X4_parse] at hR
  refine lv_aload_n hx hb dX4_parse_0 rfl (lv_at hl 0 rfl) ?_
  refine o_get hx hb hts hown hK hW (inPar_o h_p0) rfl ig4 1 (by decide) fl_X4_12 rfl dX4_parse_1 ?_
  refine o_Vv (rest := []) (As := []) (n := 0) hx hb hml hown hts hK hN hZ hW hS hA (c_X0_empty l G A Ω p0b p0b_0 hB_p0b h_p0b) (inBlk_o h_p0b) rfl (good_V ml_X4_27 im_X0_empty se_X0_empty ini_X0 co_X0_empty) (by decide +kernel) ⟨Nat.zero_le _, Nat.zero_le _⟩ hl.1 (Nat.le_of_ble_eq_true rfl) rfl rfl dX4_parse_4 (fun Ω_1 H locs hp hW hS => ?_)
  obtain ⟨h_p0b, hF_1⟩ := hp
  have h_p0 := h_p0.keep (fun q h1 h2 => hF_1 q (by omega))
  have h_p0k := h_p0k.keep (fun q h1 h2 => hF_1 q (by omega))
  have h_p0kt := h_p0kt.keep (fun q h1 h2 => hF_1 q (by omega))
  have hE : ∀ q : Nat, (q < p0k ∨ p0k + 1 ≤ q) → (q < p0b ∨ p0b + 13 ≤ q) → Ω_1 q = Ω q := fun q g0 g1 => (hF_1 q (by omega)).trans (hE q g0 g1)
  refine lv_aload_n hx hb dX4_parse_7 rfl (lv_at hl 0 rfl) ?_
  refine o_get hx hb hts hown hK hW (inPar_o h_p0) rfl ig4 0 (by decide) fl_X4_23 rfl dX4_parse_8 ?_
  refine o_Vv (rest := []) (As := []) (n := 0) hx hb hml hown hts hK hN hZ hW hS hA (c_X7_rewind l G A Ω_1 p0k p0kt p0k_0 p0k_1 p0k_2 (by omega) h_p0k) (inTok_o h_p0k) rfl (good_V ml_X4_30 im_X7_rewind se_X7_rewind ini_X7 co_X7_rewind) (by decide +kernel) ⟨Nat.zero_le _, Nat.zero_le _⟩ hl.1 (Nat.le_of_ble_eq_true rfl) rfl rfl dX4_parse_11 (fun Ω_2 H locs hp hW hS => ?_)
  obtain ⟨h_p0k, hF_2⟩ := hp
  have h_p0 := h_p0.keep (fun q h1 h2 => hF_2 q (by omega))
  have h_p0kt := h_p0kt.keep (fun q h1 h2 => hF_2 q (by omega))
  have h_p0b := h_p0b.keep (fun q h1 h2 => hF_2 q (by omega))
  have hE : ∀ q : Nat, (q < p0k ∨ p0k + 1 ≤ q) → (q < p0b ∨ p0b + 13 ≤ q) → Ω_2 q = Ω q := fun q g0 g1 => (hF_2 q (by omega)).trans (hE q g0 g1)
  refine lv_iconst (v := (0 : Int32)) hx hb dX4_parse_14 (by decide) ?_
  refine lv_istore_n (lv' := [(1, .int (0 : Int32)), (0, .ref p0)]) hx hb dX4_parse_15 rfl hl (by decide) rfl (fun ls hl => ?_)
  have L16 : ∀ (n_4 : Nat) (x1_3 : Int32) (p0k_0_3 : Int32) (p0k_1_3 : Int32) (p0k_2_3 : Int32) (p0b_0_3 : Blk) (Ω_5 : Om) (H : Heap) (locs : List Loc), (0 ≤ x1_3.toInt ∧ x1_3.toInt ≤ 161 ∧ 161 - x1_3.toInt < n_4) → (0 ≤ p0k_1_3.toInt ∧ p0k_1_3.toInt ≤ p0kt_1.toInt) → (BlkInv p0b_0_3) → inPar G Ω_5 p0 p0k p0b → inTok G Ω_5 p0k p0kt p0k_0_3 p0k_1_3 p0k_2_3 → inTxt G Ω_5 p0kt p0kt_0 p0kt_1 → inBlk G Ω_5 p0b p0b_0_3 → (∀ q : Nat, (q < p0k ∨ p0k + 1 ≤ q) → (q < p0b ∨ p0b + 13 ≤ q) → Ω_5 q = Ω q) → oW G A Ω_5 H → va_S A s.heap H locs → ∀ ls : Array Slot, lv_has ls 2 [(0, .ref p0), (1, .int x1_3)] → (f_X4_parse_L16 p0kt_0 p0kt_1 n_4 x1_3 p0k_0_3 p0k_1_3 p0k_2_3 p0b_0_3) = R → W p l e (headSpec (wz yX4_parse cX4_parse 2 (some .int)) ({ frames := 5, cells := 0, slots := 0, locals := 110 } : Room)).room s m ([.ref p0] : List Value).toArray below meth c H locs 0 0 (MQ below (va_Qi (fun (r : Int32) (Ω1 : Om) => r = R.1 ∧ inTok G Ω1 p0k p0kt (R.2.1) (R.2.2.1) (R.2.2.2.1) ∧ inBlk G Ω1 p0b (R.2.2.2.2) ∧ (∀ q : Nat, (q < p0k ∨ p0k + 1 ≤ q) → (q < p0b ∨ p0b + 13 ≤ q) → Ω1 q = Ω q)) (oB G A) A) ([.ref p0] : List Value).toArray s 0 0 A) (F0 m 16 ls []) := by
    intro n_4
    induction n_4 with
    | zero =>
      intro x1_3 p0k_0_3 p0k_1_3 p0k_2_3 p0b_0_3 Ω_5 H locs v_16_0 v_16_1 v_16_2 h_p0 h_p0k h_p0kt h_p0b hE hW hS ls hl hR
      exfalso
      omega
    | succ n_4 ih16 =>
      intro x1_3 p0k_0_3 p0k_1_3 p0k_2_3 p0b_0_3 Ω_5 H locs v_16_0 v_16_1 v_16_2 h_p0 h_p0k h_p0kt h_p0b hE hW hS ls hl hR
      rw [f_X4_parse_L16] at hR
      refine lv_iload_n hx hb dX4_parse_16 rfl (lv_at hl 1 rfl) ?_
      refine lv_sipush (v := (160 : Int32)) hx hb dX4_parse_17 (by decide) ?_
      have j_7 : (160 : Int32).toInt = 160 := by decide
      refine lv_icmp_gt (tgt := 59) hx hb dX4_parse_20 (by decide) (fun c_6 => ?_) (fun c_6 => ?_)
      · rw [if_pos c_6] at hR
        have i_6 := rlt c_6
        refine lv_bipush (v := (-10 : Int32)) hx hb dX4_parse_59 (by decide) ?_
        refine lv_aload_n hx hb dX4_parse_61 rfl (lv_at hl 0 rfl) ?_
        refine o_get hx hb hts hown hK hW (inPar_o h_p0) rfl ig4 0 (by decide) fl_X4_23 rfl dX4_parse_62 ?_
        refine o_get hx hb hts hown hK hW (inTok_o h_p0k) rfl ig7 1 (by decide) fl_X4_44 rfl dX4_parse_65 ?_
        refine lv_isub hx hb dX4_parse_68 ?_
        subst hR
        exact W.iret (v := ((-10 : Int32) - p0k_0_3)) hx hb hr (fun t ht hW9 => ⟨⟨((-10 : Int32) - p0k_0_3), Ω_5, rfl, ⟨rfl, h_p0k, h_p0b, hE⟩, by rw [oB, ht]; exact hW⟩, hS.F ht⟩) hS.2.2 dX4_parse_69
      · rw [if_neg c_6] at hR
        have i_6 := rnlt c_6
        refine lv_aload_n hx hb dX4_parse_23 rfl (lv_at hl 0 rfl) ?_
        refine o_get hx hb hts hown hK hW (inPar_o h_p0) rfl ig4 0 (by decide) fl_X4_23 rfl dX4_parse_24 ?_
        refine o_Vv (rest := []) (As := []) (n := 0) hx hb hml hown hts hK hN hZ hW hS hA (c_X7_advance l G A Ω_5 p0k p0kt p0k_0_3 p0k_1_3 p0k_2_3 p0kt_0 p0kt_1 (by omega) (by omega) (by omega) h_p0k h_p0kt) (inTok_o h_p0k) rfl (good_V ml_X4_33 im_X7_advance se_X7_advance ini_X7 co_X7_advance) (by decide +kernel) ⟨Nat.zero_le _, Nat.zero_le _⟩ hl.1 (Nat.le_of_ble_eq_true rfl) rfl rfl dX4_parse_27 (fun Ω_8 H locs hp hW hS => ?_)
        obtain ⟨h_p0k, hF_8⟩ := hp
        have h_p0 := h_p0.keep (fun q h1 h2 => hF_8 q (by omega))
        have h_p0kt := h_p0kt.keep (fun q h1 h2 => hF_8 q (by omega))
        have h_p0b := h_p0b.keep (fun q h1 h2 => hF_8 q (by omega))
        have hE : ∀ q : Nat, (q < p0k ∨ p0k + 1 ≤ q) → (q < p0b ∨ p0b + 13 ≤ q) → Ω_8 q = Ω q := fun q g0 g1 => (hF_8 q (by omega)).trans (hE q g0 g1)
        have qt_8 : 0 ≤ (f_X7_advance p0k_1_3 p0kt_0 p0kt_1).1.toInt ∧ (f_X7_advance p0k_1_3 p0kt_0 p0kt_1).1.toInt ≤ (f_X7_advance p0k_1_3 p0kt_0 p0kt_1).2.1.toInt ∧ (f_X7_advance p0k_1_3 p0kt_0 p0kt_1).2.1.toInt ≤ p0kt_1.toInt := R_advance hT_p0kt (by omega)
        generalize (f_X7_advance p0k_1_3 p0kt_0 p0kt_1) = Z_8 at h_p0k hR qt_8
        obtain ⟨z8_0, z8_1, z8_2⟩ := Z_8
        dsimp only at h_p0k hR qt_8
        rw [f_X4_parse_C30] at hR
        refine lv_aload_n hx hb dX4_parse_30 rfl (lv_at hl 0 rfl) ?_
        refine o_get hx hb hts hown hK hW (inPar_o h_p0) rfl ig4 0 (by decide) fl_X4_23 rfl dX4_parse_31 ?_
        refine o_get hx hb hts hown hK hW (inTok_o h_p0k) rfl ig7 3 (by decide) fl_X4_36 rfl dX4_parse_34 ?_
        refine lv_iconst (v := (4 : Int32)) hx hb dX4_parse_37 (by decide) ?_
        have j_10 : (4 : Int32).toInt = 4 := by decide
        refine lv_icmp_ne (tgt := 43) hx hb dX4_parse_38 (by decide) (fun c_9 => ?_) (fun c_9 => ?_)
        · rw [if_neg c_9] at hR
          have i_9 := rne c_9
          refine lv_aload_n hx hb dX4_parse_43 rfl (lv_at hl 0 rfl) ?_
          refine o_Vi (rest := []) (As := []) (n := 0) hx hb hml hown hts hK hN hZ hW hS hA (c_X4_readItem l G A Ω_8 p0 p0k p0kt p0b z8_0 z8_1 z8_2 p0kt_0 p0kt_1 p0b_0_3 (by omega) (by omega) (by omega) (by omega) (by omega) (by omega) (by omega) (by assumption) (by omega) h_p0 h_p0k h_p0kt h_p0b) (inPar_o h_p0) rfl (good_V ml_X4_40 im_X4_readItem se_X4_readItem ini_X4 co_X4_readItem) (by decide +kernel) ⟨Nat.zero_le _, Nat.zero_le _⟩ hl.1 (Nat.le_of_ble_eq_true rfl) rfl rfl dX4_parse_44 (fun r Ω_11 H locs hp hW hS => ?_)
          obtain ⟨rfl, hz_11, h_p0k, h_p0b, hF_11⟩ := hp
          have h_p0 := h_p0.keep (fun q h1 h2 => hF_11 q (by omega) (by omega))
          have h_p0kt := h_p0kt.keep (fun q h1 h2 => hF_11 q (by omega) (by omega))
          have hE : ∀ q : Nat, (q < p0k ∨ p0k + 1 ≤ q) → (q < p0b ∨ p0b + 13 ≤ q) → Ω_11 q = Ω q := fun q g0 g1 => (hF_11 q (by omega) (by omega)).trans (hE q g0 g1)
          have qt_11 : 0 ≤ (f_X4_readItem z8_0 z8_1 z8_2 p0kt_0 p0kt_1 p0b_0_3).2.1.toInt ∧ (f_X4_readItem z8_0 z8_1 z8_2 p0kt_0 p0kt_1 p0b_0_3).2.1.toInt ≤ (f_X4_readItem z8_0 z8_1 z8_2 p0kt_0 p0kt_1 p0b_0_3).2.2.1.toInt ∧ (f_X4_readItem z8_0 z8_1 z8_2 p0kt_0 p0kt_1 p0b_0_3).2.2.1.toInt ≤ p0kt_1.toInt := (R_readItem (by assumption) hT_p0kt (by omega)).1
          have qb_11 : BlkInv (f_X4_readItem z8_0 z8_1 z8_2 p0kt_0 p0kt_1 p0b_0_3).2.2.2.2 := (R_readItem (by assumption) hT_p0kt (by omega)).2
          generalize (f_X4_readItem z8_0 z8_1 z8_2 p0kt_0 p0kt_1 p0b_0_3) = Z_11 at h_p0k h_p0b hR qt_11 qb_11 hz_11 ⊢
          obtain ⟨z11_0, z11_1, z11_2, z11_3, z11_4⟩ := Z_11
          dsimp only at h_p0k h_p0b hR qt_11 qb_11 hz_11 ⊢
          rw [f_X4_parse_C47] at hR
          have j_13 : (0 : Int32).toInt = 0 := by decide
          refine lv_if_ne (tgt := 53) hx hb dX4_parse_47 (by decide) (fun c_12 => ?_) (fun c_12 => ?_)
          · rw [if_neg c_12] at hR
            have i_12 := rne c_12
            refine lv_iinc (v := (x1_3 + (1 : Int32))) (lv' := [(1, .int (x1_3 + (1 : Int32))), (0, .ref p0)]) hx hb dX4_parse_53 hl (k := 1) rfl rfl (by decide) rfl (fun ls hl => ?_)
            refine lv_goto (tgt := 16) hx hb dX4_parse_56 (by decide) ?_
            have j_14 : (1 : Int32).toInt = 1 := by decide
            try have j_15 : (x1_3 + (1 : Int32)).toInt = x1_3.toInt + (1 : Int32).toInt := fb_addI (by omega) (by omega)
            have qr : (f_X7_rewind).toInt = 0 := by decide
            have qb0 : BlkInv z11_4 := by first | assumption | exact BI_empty hB_p0b
            exact ih16 (x1_3 + (1 : Int32)) z11_1 z11_2 z11_3 z11_4 Ω_11 H locs (by omega) (by omega) (by assumption) h_p0 h_p0k h_p0kt h_p0b hE hW hS ls (lv_sub hl [1, 0] rfl) hR
          · rw [if_pos c_12] at hR
            have i_12 := congrArg Int32.toInt c_12
            refine lv_goto (tgt := 59) hx hb dX4_parse_50 (by decide) ?_
            refine lv_bipush (v := (-10 : Int32)) hx hb dX4_parse_59 (by decide) ?_
            refine lv_aload_n hx hb dX4_parse_61 rfl (lv_at hl 0 rfl) ?_
            refine o_get hx hb hts hown hK hW (inPar_o h_p0) rfl ig4 0 (by decide) fl_X4_23 rfl dX4_parse_62 ?_
            refine o_get hx hb hts hown hK hW (inTok_o h_p0k) rfl ig7 1 (by decide) fl_X4_44 rfl dX4_parse_65 ?_
            refine lv_isub hx hb dX4_parse_68 ?_
            subst hR
            exact W.iret (v := ((-10 : Int32) - z11_1)) hx hb hr (fun t ht hW9 => ⟨⟨((-10 : Int32) - z11_1), Ω_11, rfl, ⟨rfl, h_p0k, h_p0b, hE⟩, by rw [oB, ht]; exact hW⟩, hS.F ht⟩) hS.2.2 dX4_parse_69
        · rw [if_pos c_9] at hR
          have i_9 := congrArg Int32.toInt c_9
          refine lv_iload_n hx hb dX4_parse_41 rfl (lv_at hl 1 rfl) ?_
          subst hR
          exact W.iret (v := x1_3) hx hb hr (fun t ht hW9 => ⟨⟨x1_3, Ω_8, rfl, ⟨rfl, h_p0k, h_p0b, hE⟩, by rw [oB, ht]; exact hW⟩, hS.F ht⟩) hS.2.2 dX4_parse_42
  have j_16 : (0 : Int32).toInt = 0 := by decide
  have qr : (f_X7_rewind).toInt = 0 := by decide
  have qb0 : BlkInv (f_X0_empty p0b_0) := by first | assumption | exact BI_empty hB_p0b
  exact L16 4000 (0 : Int32) p0k_0 f_X7_rewind p0k_2 (f_X0_empty p0b_0) Ω_2 H locs (by omega) (by omega) (by assumption) h_p0 h_p0k h_p0kt h_p0b hE hW hS ls (lv_sub hl [1, 0] rfl) hR
