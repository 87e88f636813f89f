set_option maxHeartbeats 4000000 in
set_option maxRecDepth 100000 in
theorem c_X2_forget (l : Launch) (G : Gm) (A : Nat → Prop) (Ω : Om) (p0 : Nat) (p0_0 : Nat → Sit) (p0_1 : Int32) (p0_2 : Int32) (h_p0 : inHis G Ω p0 p0_0 p0_1 p0_2) : Met l yX2_forget (wz yX2_forget cX2_forget 1 none) ({ frames := 0, cells := 0, slots := 0, locals := 0 } : Room) (va_Pc [.ref p0] (oS G A Ω)) (va_Qv (fun (Ω1 : Om) => inHis G Ω1 p0 p0_0 p0_1 (f_X2_forget) ∧ (∀ q : Nat, (q < p0 ∨ p0 + 92 ≤ q) → Ω1 q = Ω q)) (oB G A) A) 0 0 A := by
  refine Met.ofW (cc := cX2_forget) (maxL := 1) (ret := none) (by decide) rfl ?_
  intro p e s m args below meth c s₁ B hml hv
  obtain ⟨rfl, hW, hK, hN, hZ⟩ := hv
  have hx := B.exec
  have hb := B.bytes
  have hr := B.returns
  have hts : ∀ w ∈ gt, w.before _ s = true := fun w hw => atoms_spec (ws := wz yX2_forget cX2_forget 1 none) B.pre w (List.mem_cons_of_mem _ hw)
  have hown : s.vm.findClass RX2 = some m.cls := findClass_of_methodNamed B.named
  have hlocks := B.notSynchronized
  have hA : ∀ q, A q → A q := fun _ h => h
  have hS : va_S A s.heap s.heap [] := va_S.rf
  have hS0 := hS
  have hl := lv_entry ([.ref p0]) (n := 1) (Nat.le_of_ble_eq_true rfl)
  rw [lg_entry_eq]
  generalize (lg_sl ([.ref p0]) ++ List.replicate (1 - (lg_sl ([.ref p0])).length) Slot.unset).toArray = ls at hl ⊢
  have hl : lv_has ls 1 [(0, .ref p0)] := hl
  have hE : ∀ q : Nat, (q < p0 ∨ p0 + 92 ≤ q) → Ω q = Ω q := by intros; rfl
  generalize hR : f_X2_forget = R
  rw [f_X2_forget] at hR
  refine lv_aload_n hx hb dX2_forget_0 rfl (lv_at hl 0 rfl) ?_
  refine lv_iconst (v := (0 : Int32)) hx hb dX2_forget_1 (by decide) ?_
  refine vHis_2 hx hb hts hown hK hW hS hA h_p0 fl_X2_18 dX2_forget_2 (fun Ω_1 H locs h_p0 hF_1 hW hS => ?_)
  have hE : ∀ q : Nat, (q < p0 ∨ p0 + 92 ≤ q) → Ω_1 q = Ω q := fun q g0 => (hF_1 q (by omega)).trans (hE q g0)
  subst hR
  exact W.vret hx hb hr (fun t ht hW9 => ⟨⟨Ω_1, rfl, ⟨h_p0, hE⟩, by rw [oB, ht]; exact hW⟩, hS.F ht⟩) hS.2.2 dX2_forget_5
set_option maxHeartbeats 4000000 in
set_option maxRecDepth 100000 in
theorem c_X7_rewind (l : Launch) (G : Gm) (A : Nat → Prop) (Ω : Om) (p0 : Nat) (p0t : Nat) (p0_0 : Int32) (p0_1 : Int32) (p0_2 : Int32) (hd_p0_p0t : p0 + 1 ≤ p0t ∨ p0t + 2 ≤ p0) (h_p0 : inTok G Ω p0 p0t p0_0 p0_1 p0_2) : Met l yX7_rewind (wz yX7_rewind cX7_rewind 1 none) ({ frames := 0, cells := 0, slots := 0, locals := 0 } : Room) (va_Pc [.ref p0] (oS G A Ω)) (va_Qv (fun (Ω1 : Om) => inTok G Ω1 p0 p0t p0_0 (f_X7_rewind) p0_2 ∧ (∀ q : Nat, (q < p0 ∨ p0 + 1 ≤ q) → Ω1 q = Ω q)) (oB G A) A) 0 0 A := by
  refine Met.ofW (cc := cX7_rewind) (maxL := 1) (ret := none) (by decide) rfl ?_
  intro p e s m args below meth c s₁ B hml hv
  obtain ⟨rfl, hW, hK, hN, hZ⟩ := hv
  have hx := B.exec
  have hb := B.bytes
  have hr := B.returns
  have hts : ∀ w ∈ gt, w.before _ s = true := fun w hw => atoms_spec (ws := wz yX7_rewind cX7_rewind 1 none) B.pre w (List.mem_cons_of_mem _ hw)
  have hown : s.vm.findClass RX7 = some m.cls := findClass_of_methodNamed B.named
  have hlocks := B.notSynchronized
  have hA : ∀ q, A q → A q := fun _ h => h
  have hS : va_S A s.heap s.heap [] := va_S.rf
  have hS0 := hS
  have hl := lv_entry ([.ref p0]) (n := 1) (Nat.le_of_ble_eq_true rfl)
  rw [lg_entry_eq]
  generalize (lg_sl ([.ref p0]) ++ List.replicate (1 - (lg_sl ([.ref p0])).length) Slot.unset).toArray = ls at hl ⊢
  have hl : lv_has ls 1 [(0, .ref p0)] := hl
  have hE : ∀ q : Nat, (q < p0 ∨ p0 + 1 ≤ q) → Ω q = Ω q := by intros; rfl
  generalize hR : f_X7_rewind = R
  rw [f_X7_rewind] at hR
  refine lv_aload_n hx hb dX7_rewind_0 rfl (lv_at hl 0 rfl) ?_
  refine lv_iconst (v := (0 : Int32)) hx hb dX7_rewind_1 (by decide) ?_
  refine vTok_2 hx hb hts hown hK hW hS hA h_p0 fl_X7_15 dX7_rewind_2 (fun Ω_1 H locs h_p0 hF_1 hW hS => ?_)
  have hE : ∀ q : Nat, (q < p0 ∨ p0 + 1 ≤ q) → Ω_1 q = Ω q := fun q g0 => (hF_1 q (by omega)).trans (hE q g0)
  subst hR
  exact W.vret hx hb hr (fun t ht hW9 => ⟨⟨Ω_1, rfl, ⟨h_p0, hE⟩, by rw [oB, ht]; exact hW⟩, hS.F ht⟩) hS.2.2 dX7_rewind_5
set_option maxHeartbeats 4000000 in
set_option maxRecDepth 100000 in
theorem c_X7_advance (l : Launch) (G : Gm) (A : Nat → Prop) (Ω : Om) (p0 : Nat) (p0t : Nat) (p0_0 : Int32) (p0_1 : Int32) (p0_2 : Int32) (p0t_0 : Fn) (p0t_1 : Int32) (hd_p0_p0t : p0 + 1 ≤ p0t ∨ p0t + 2 ≤ p0) (hT_p0t : 0 ≤ p0t_1.toInt ∧ p0t_1.toInt ≤ 160) (he : 0 ≤ p0_1.toInt ∧ p0_1.toInt ≤ p0t_1.toInt) (h_p0 : inTok G Ω p0 p0t p0_0 p0_1 p0_2) (h_p0t : inTxt G Ω p0t p0t_0 p0t_1) : Met l yX7_advance (wz yX7_advance cX7_advance 1 none) ({ frames := 1, cells := 0, slots := 0, locals := 21 } : Room) (va_Pc [.ref p0] (oS G A Ω)) (va_Qv (fun (Ω1 : Om) => inTok G Ω1 p0 p0t ((f_X7_advance p0_1 p0t_0 p0t_1).1) ((f_X7_advance p0_1 p0t_0 p0t_1).2.1) ((f_X7_advance p0_1 p0t_0 p0t_1).2.2) ∧ (∀ q : Nat, (q < p0 ∨ p0 + 1 ≤ q) → Ω1 q = Ω q)) (oB G A) A) 0 0 A := by
  refine Met.ofW (cc := cX7_advance) (maxL := 1) (ret := none) (by decide) rfl ?_
  intro p e s m args below meth c s₁ B hml hv
  obtain ⟨rfl, hW, hK, hN, hZ⟩ := hv
  have hx := B.exec
  have hb := B.bytes
  have hr := B.returns
  have hts : ∀ w ∈ gt, w.before _ s = true := fun w hw => atoms_spec (ws := wz yX7_advance cX7_advance 1 none) B.pre w (List.mem_cons_of_mem _ hw)
  have hown : s.vm.findClass RX7 = some m.cls := findClass_of_methodNamed B.named
  have hlocks := B.notSynchronized
  have hA : ∀ q, A q → A q := fun _ h => h
  have hS : va_S A s.heap s.heap [] := va_S.rf
  have hS0 := hS
  have hl := lv_entry ([.ref p0]) (n := 1) (Nat.le_of_ble_eq_true rfl)
  rw [lg_entry_eq]
  generalize (lg_sl ([.ref p0]) ++ List.replicate (1 - (lg_sl ([.ref p0])).length) Slot.unset).toArray = ls at hl ⊢
  have hl : lv_has ls 1 [(0, .ref p0)] := hl
  have hE : ∀ q : Nat, (q < p0 ∨ p0 + 1 ≤ q) → Ω q = Ω q := by intros; rfl
  generalize hR : (f_X7_advance p0_1 p0t_0 p0t_1) = R
  rw [f_X7_advance] at hR
  refine lv_aload_n hx hb dX7_advance_0 rfl (lv_at hl 0 rfl) ?_
  refine lv_aload_n hx hb dX7_advance_1 rfl (lv_at hl 0 rfl) ?_
  refine o_get hx hb hts hown hK hW (inTok_o h_p0) rfl ig7 2 (by decide) fl_X7_15 rfl dX7_advance_2 ?_
  refine vTok_1 hx hb hts hown hK hW hS hA h_p0 fl_X7_19 dX7_advance_5 (fun Ω_1 H locs h_p0 hF_1 hW hS => ?_)
  have h_p0t := h_p0t.keep (fun q h1 h2 => hF_1 q (by omega))
  have hE : ∀ q : Nat, (q < p0 ∨ p0 + 1 ≤ q) → Ω_1 q = Ω q := fun q g0 => (hF_1 q (by omega)).trans (hE q g0)
  have L8 : ∀ (n_3 : Nat) (p0_0_2 : Int32) (Ω_4 : Om) (H : Heap) (locs : List Loc), (0 ≤ p0_0_2.toInt ∧ p0_0_2.toInt ≤ p0t_1.toInt ∧ 160 - p0_0_2.toInt < n_3) → inTok G Ω_4 p0 p0t p0_0_2 p0_1 p0_2 → inTxt G Ω_4 p0t p0t_0 p0t_1 → (∀ q : Nat, (q < p0 ∨ p0 + 1 ≤ q) → Ω_4 q = Ω q) → oW G A Ω_4 H → va_S A s.heap H locs → ∀ ls : Array Slot, lv_has ls 1 [(0, .ref p0)] → (f_X7_advance_L8 p0t_0 p0t_1 n_3 p0_0_2) = R → W p l e (headSpec (wz yX7_advance cX7_advance 1 none) ({ frames := 1, cells := 0, slots := 0, locals := 21 } : Room)).room s m ([.ref p0] : List Value).toArray below meth c H locs 0 0 (MQ below (va_Qv (fun (Ω1 : Om) => inTok G Ω1 p0 p0t (R.1) (R.2.1) (R.2.2) ∧ (∀ q : Nat, (q < p0 ∨ p0 + 1 ≤ q) → Ω1 q = Ω q)) (oB G A) A) ([.ref p0] : List Value).toArray s 0 0 A) (F0 m 8 ls []) := by
    intro n_3
    induction n_3 with
    | zero =>
      intro p0_0_2 Ω_4 H locs v_8_0 h_p0 h_p0t hE hW hS ls hl hR
      exfalso
      omega
    | succ n_3 ih8 =>
      intro p0_0_2 Ω_4 H locs v_8_0 h_p0 h_p0t hE hW hS ls hl hR
      rw [f_X7_advance_L8] at hR
      refine lv_aload_n hx hb dX7_advance_8 rfl (lv_at hl 0 rfl) ?_
      refine o_get hx hb hts hown hK hW (inTok_o h_p0) rfl ig7 1 (by decide) fl_X7_19 rfl dX7_advance_9 ?_
      refine lv_aload_n hx hb dX7_advance_12 rfl (lv_at hl 0 rfl) ?_
      refine o_get hx hb hts hown hK hW (inTok_o h_p0) rfl ig7 0 (by decide) fl_X7_9 rfl dX7_advance_13 ?_
      refine o_get hx hb hts hown hK hW (inTxt_o h_p0t) rfl ig6 1 (by decide) fl_X7_22 rfl dX7_advance_16 ?_
      have J52 : ∀ (H : Heap) (locs : List Loc), oW G A Ω_4 H → va_S A s.heap H locs → ∀ ls : Array Slot, lv_has ls 1 [(0, .ref p0)] → (f_X7_advance_J52 p0_0_2 p0t_0 p0t_1) = R → W p l e (headSpec (wz yX7_advance cX7_advance 1 none) ({ frames := 1, cells := 0, slots := 0, locals := 21 } : Room)).room s m ([.ref p0] : List Value).toArray below meth c H locs 0 0 (MQ below (va_Qv (fun (Ω1 : Om) => inTok G Ω1 p0 p0t (R.1) (R.2.1) (R.2.2) ∧ (∀ q : Nat, (q < p0 ∨ p0 + 1 ≤ q) → Ω1 q = Ω q)) (oB G A) A) ([.ref p0] : List Value).toArray s 0 0 A) (F0 m 52 ls []) := by
        intro H locs hW hS ls hl hR
        rw [f_X7_advance_J52] at hR
        refine lv_aload_n hx hb dX7_advance_52 rfl (lv_at hl 0 rfl) ?_
        refine lv_aload_n hx hb dX7_advance_53 rfl (lv_at hl 0 rfl) ?_
        refine o_get hx hb hts hown hK hW (inTok_o h_p0) rfl ig7 1 (by decide) fl_X7_19 rfl dX7_advance_54 ?_
        refine vTok_2 hx hb hts hown hK hW hS hA h_p0 fl_X7_15 dX7_advance_57 (fun Ω_6 H locs h_p0 hF_6 hW hS => ?_)
        have h_p0t := h_p0t.keep (fun q h1 h2 => hF_6 q (by omega))
        have hE : ∀ q : Nat, (q < p0 ∨ p0 + 1 ≤ q) → Ω_6 q = Ω q := fun q g0 => (hF_6 q (by omega)).trans (hE q g0)
        refine lv_aload_n hx hb dX7_advance_60 rfl (lv_at hl 0 rfl) ?_
        refine o_get hx hb hts hown hK hW (inTok_o h_p0) rfl ig7 1 (by decide) fl_X7_19 rfl dX7_advance_61 ?_
        refine lv_aload_n hx hb dX7_advance_64 rfl (lv_at hl 0 rfl) ?_
        refine o_get hx hb hts hown hK hW (inTok_o h_p0) rfl ig7 0 (by decide) fl_X7_9 rfl dX7_advance_65 ?_
        refine o_get hx hb hts hown hK hW (inTxt_o h_p0t) rfl ig6 1 (by decide) fl_X7_22 rfl dX7_advance_68 ?_
        refine lv_icmp_lt (tgt := 82) hx hb dX7_advance_71 (by decide) (fun c_7 => ?_) (fun c_7 => ?_)
        · rw [if_pos c_7] at hR
          have i_7 := rlt c_7
          refine lv_aload_n hx hb dX7_advance_82 rfl (lv_at hl 0 rfl) ?_
          refine o_get hx hb hts hown hK hW (inTok_o h_p0) rfl ig7 0 (by decide) fl_X7_9 rfl dX7_advance_83 ?_
          refine lv_aload_n hx hb dX7_advance_86 rfl (lv_at hl 0 rfl) ?_
          refine o_get hx hb hts hown hK hW (inTok_o h_p0) rfl ig7 1 (by decide) fl_X7_19 rfl dX7_advance_87 ?_
          refine o_ViR (rest := []) (As := [.int p0_0_2]) (n := 1) hx hb hml hown hts hK hN hZ hW hS hA (c_X6_isLetter l G A Ω_6 p0t p0t_0 p0t_1 p0_0_2 (by omega) (by omega) h_p0t) (inTxt_o h_p0t) rfl (good_V ml_X7_34 im_X6_isLetter se_X6_isLetter ini_X6 co_X6_isLetter) (by decide +kernel) ⟨Nat.zero_le _, Nat.zero_le _⟩ hl.1 (Nat.le_of_ble_eq_true rfl) rfl rfl dX7_advance_90 (fun r H locs hp hW hS => ?_)
          obtain ⟨rfl, hz_8⟩ := hp
          have j_10 : (0 : Int32).toInt = 0 := by decide
          refine lv_if_eq (tgt := 142) hx hb dX7_advance_93 (by decide) (fun c_9 => ?_) (fun c_9 => ?_)
          · rw [if_pos c_9] at hR
            have i_9 := congrArg Int32.toInt c_9
            refine lv_aload_n hx hb dX7_advance_142 rfl (lv_at hl 0 rfl) ?_
            refine o_get hx hb hts hown hK hW (inTok_o h_p0) rfl ig7 0 (by decide) fl_X7_9 rfl dX7_advance_143 ?_
            refine lv_aload_n hx hb dX7_advance_146 rfl (lv_at hl 0 rfl) ?_
            refine o_get hx hb hts hown hK hW (inTok_o h_p0) rfl ig7 1 (by decide) fl_X7_19 rfl dX7_advance_147 ?_
            refine o_ViR (rest := []) (As := [.int p0_0_2]) (n := 1) hx hb hml hown hts hK hN hZ hW hS hA (c_X6_isDigit l G A Ω_6 p0t p0t_0 p0t_1 p0_0_2 (by omega) (by omega) h_p0t) (inTxt_o h_p0t) rfl (good_V ml_X7_38 im_X6_isDigit se_X6_isDigit ini_X6 co_X6_isDigit) (by decide +kernel) ⟨Nat.zero_le _, Nat.zero_le _⟩ hl.1 (Nat.le_of_ble_eq_true rfl) rfl rfl dX7_advance_150 (fun r H locs hp hW hS => ?_)
            obtain ⟨rfl, hz_11⟩ := hp
            refine lv_if_eq (tgt := 202) hx hb dX7_advance_153 (by decide) (fun c_12 => ?_) (fun c_12 => ?_)
            · rw [if_pos c_12] at hR
              have i_12 := congrArg Int32.toInt c_12
              refine lv_aload_n hx hb dX7_advance_202 rfl (lv_at hl 0 rfl) ?_
              refine lv_aload_n hx hb dX7_advance_203 rfl (lv_at hl 0 rfl) ?_
              refine o_get hx hb hts hown hK hW (inTok_o h_p0) rfl ig7 0 (by decide) fl_X7_9 rfl dX7_advance_204 ?_
              refine o_get hx hb hts hown hK hW (inTxt_o h_p0t) rfl ig6 0 (by decide) fl_X7_27 rfl dX7_advance_207 ?_
              refine lv_aload_n hx hb dX7_advance_210 rfl (lv_at hl 0 rfl) ?_
              refine o_get hx hb hts hown hK hW (inTok_o h_p0) rfl ig7 1 (by decide) fl_X7_19 rfl dX7_advance_211 ?_
              refine o_iald hx hb hK hW (inTxt_a0 h_p0t) (vp_in_iff.mpr ⟨by omega, by omega⟩) dX7_advance_214 ?_
              refine lv_bipush (v := (59 : Int32)) hx hb dX7_advance_215 (by decide) ?_
              have J225 : ∀ (s1_13 : Int32) (H : Heap) (locs : List Loc), oW G A Ω_6 H → va_S A s.heap H locs → ∀ ls : Array Slot, lv_has ls 1 [(0, .ref p0)] → (f_X7_advance_J225 p0_0_2 p0_0_2 s1_13) = R → W p l e (headSpec (wz yX7_advance cX7_advance 1 none) ({ frames := 1, cells := 0, slots := 0, locals := 21 } : Room)).room s m ([.ref p0] : List Value).toArray below meth c H locs 0 0 (MQ below (va_Qv (fun (Ω1 : Om) => inTok G Ω1 p0 p0t (R.1) (R.2.1) (R.2.2) ∧ (∀ q : Nat, (q < p0 ∨ p0 + 1 ≤ q) → Ω1 q = Ω q)) (oB G A) A) ([.ref p0] : List Value).toArray s 0 0 A) (F0 m 225 ls [.int s1_13, .ref p0]) := by
                intro s1_13 H locs hW hS ls hl hR
                rw [f_X7_advance_J225] at hR
                refine vTok_3 hx hb hts hown hK hW hS hA h_p0 fl_X7_31 dX7_advance_225 (fun Ω_14 H locs h_p0 hF_14 hW hS => ?_)
                have h_p0t := h_p0t.keep (fun q h1 h2 => hF_14 q (by omega))
                have hE : ∀ q : Nat, (q < p0 ∨ p0 + 1 ≤ q) → Ω_14 q = Ω q := fun q g0 => (hF_14 q (by omega)).trans (hE q g0)
                refine lv_aload_n hx hb dX7_advance_228 rfl (lv_at hl 0 rfl) ?_
                refine lv_dup hx hb dX7_advance_229 rfl ?_
                refine o_get hx hb hts hown hK hW (inTok_o h_p0) rfl ig7 2 (by decide) fl_X7_15 rfl dX7_advance_230 ?_
                refine lv_iconst (v := (1 : Int32)) hx hb dX7_advance_233 (by decide) ?_
                refine lv_iadd hx hb dX7_advance_234 ?_
                refine vTok_2 hx hb hts hown hK hW hS hA h_p0 fl_X7_15 dX7_advance_235 (fun Ω_15 H locs h_p0 hF_15 hW hS => ?_)
                have h_p0t := h_p0t.keep (fun q h1 h2 => hF_15 q (by omega))
                have hE : ∀ q : Nat, (q < p0 ∨ p0 + 1 ≤ q) → Ω_15 q = Ω q := fun q g0 => (hF_15 q (by omega)).trans (hE q g0)
                subst hR
                exact W.vret hx hb hr (fun t ht hW9 => ⟨⟨Ω_15, rfl, ⟨h_p0, hE⟩, by rw [oB, ht]; exact hW⟩, hS.F ht⟩) hS.2.2 dX7_advance_238
              have j_17 : (59 : Int32).toInt = 59 := by decide
              refine lv_icmp_ne (tgt := 224) hx hb dX7_advance_217 (by decide) (fun c_16 => ?_) (fun c_16 => ?_)
              · rw [if_neg c_16] at hR
                have i_16 := rne c_16
                refine lv_iconst (v := (0 : Int32)) hx hb dX7_advance_224 (by decide) ?_
                exact J225 (0 : Int32) H locs hW hS ls (lv_sub hl [0] rfl) hR
              · rw [if_pos c_16] at hR
                have i_16 := congrArg Int32.toInt c_16
                refine lv_iconst (v := (3 : Int32)) hx hb dX7_advance_220 (by decide) ?_
                refine lv_goto (tgt := 225) hx hb dX7_advance_221 (by decide) ?_
                have j_18 : (3 : Int32).toInt = 3 := by decide
                exact J225 (3 : Int32) H locs hW hS ls (lv_sub hl [0] rfl) hR
            · rw [if_neg c_12] at hR
              have i_12 := rne c_12
              refine lv_aload_n hx hb dX7_advance_156 rfl (lv_at hl 0 rfl) ?_
              refine lv_iconst (v := (2 : Int32)) hx hb dX7_advance_157 (by decide) ?_
              refine vTok_3 hx hb hts hown hK hW hS hA h_p0 fl_X7_31 dX7_advance_158 (fun Ω_19 H locs h_p0 hF_19 hW hS => ?_)
              have h_p0t := h_p0t.keep (fun q h1 h2 => hF_19 q (by omega))
              have hE : ∀ q : Nat, (q < p0 ∨ p0 + 1 ≤ q) → Ω_19 q = Ω q := fun q g0 => (hF_19 q (by omega)).trans (hE q g0)
              have L161 : ∀ (n_21 : Nat) (p0_1_20 : Int32) (Ω_22 : Om) (H : Heap) (locs : List Loc), (0 ≤ p0_1_20.toInt ∧ p0_1_20.toInt ≤ p0t_1.toInt ∧ 160 - p0_1_20.toInt < n_21) → inTok G Ω_22 p0 p0t p0_0_2 p0_1_20 (2 : Int32) → inTxt G Ω_22 p0t p0t_0 p0t_1 → (∀ q : Nat, (q < p0 ∨ p0 + 1 ≤ q) → Ω_22 q = Ω q) → oW G A Ω_22 H → va_S A s.heap H locs → ∀ ls : Array Slot, lv_has ls 1 [(0, .ref p0)] → (f_X7_advance_L161 p0_0_2 (2 : Int32) p0t_0 p0t_1 n_21 p0_1_20) = R → W p l e (headSpec (wz yX7_advance cX7_advance 1 none) ({ frames := 1, cells := 0, slots := 0, locals := 21 } : Room)).room s m ([.ref p0] : List Value).toArray below meth c H locs 0 0 (MQ below (va_Qv (fun (Ω1 : Om) => inTok G Ω1 p0 p0t (R.1) (R.2.1) (R.2.2) ∧ (∀ q : Nat, (q < p0 ∨ p0 + 1 ≤ q) → Ω1 q = Ω q)) (oB G A) A) ([.ref p0] : List Value).toArray s 0 0 A) (F0 m 161 ls []) := by
                intro n_21
                induction n_21 with
                | zero =>
                  intro p0_1_20 Ω_22 H locs v_161_0 h_p0 h_p0t hE hW hS ls hl hR
                  exfalso
                  omega
                | succ n_21 ih161 =>
                  intro p0_1_20 Ω_22 H locs v_161_0 h_p0 h_p0t hE hW hS ls hl hR
                  rw [f_X7_advance_L161] at hR
                  refine lv_aload_n hx hb dX7_advance_161 rfl (lv_at hl 0 rfl) ?_
                  refine o_get hx hb hts hown hK hW (inTok_o h_p0) rfl ig7 2 (by decide) fl_X7_15 rfl dX7_advance_162 ?_
                  refine lv_aload_n hx hb dX7_advance_165 rfl (lv_at hl 0 rfl) ?_
                  refine o_get hx hb hts hown hK hW (inTok_o h_p0) rfl ig7 0 (by decide) fl_X7_9 rfl dX7_advance_166 ?_
                  refine o_get hx hb hts hown hK hW (inTxt_o h_p0t) rfl ig6 1 (by decide) fl_X7_22 rfl dX7_advance_169 ?_
                  refine lv_icmp_ge (tgt := 238) hx hb dX7_advance_172 (by decide) (fun c_23 => ?_) (fun c_23 => ?_)
                  · rw [if_pos c_23] at hR
                    have i_23 := rle c_23
                    subst hR
                    exact W.vret hx hb hr (fun t ht hW9 => ⟨⟨Ω_22, rfl, ⟨h_p0, hE⟩, by rw [oB, ht]; exact hW⟩, hS.F ht⟩) hS.2.2 dX7_advance_238
                  · rw [if_neg c_23] at hR
                    have i_23 := rnle c_23
                    refine lv_aload_n hx hb dX7_advance_175 rfl (lv_at hl 0 rfl) ?_
                    refine o_get hx hb hts hown hK hW (inTok_o h_p0) rfl ig7 0 (by decide) fl_X7_9 rfl dX7_advance_176 ?_
                    refine lv_aload_n hx hb dX7_advance_179 rfl (lv_at hl 0 rfl) ?_
                    refine o_get hx hb hts hown hK hW (inTok_o h_p0) rfl ig7 2 (by decide) fl_X7_15 rfl dX7_advance_180 ?_
                    refine o_ViR (rest := []) (As := [.int p0_1_20]) (n := 1) hx hb hml hown hts hK hN hZ hW hS hA (c_X6_isDigit l G A Ω_22 p0t p0t_0 p0t_1 p0_1_20 (by omega) (by omega) h_p0t) (inTxt_o h_p0t) rfl (good_V ml_X7_38 im_X6_isDigit se_X6_isDigit ini_X6 co_X6_isDigit) (by decide +kernel) ⟨Nat.zero_le _, Nat.zero_le _⟩ hl.1 (Nat.le_of_ble_eq_true rfl) rfl rfl dX7_advance_183 (fun r H locs hp hW hS => ?_)
                    obtain ⟨rfl, hz_24⟩ := hp
                    refine lv_if_eq (tgt := 238) hx hb dX7_advance_186 (by decide) (fun c_25 => ?_) (fun c_25 => ?_)
                    · rw [if_pos c_25] at hR
                      have i_25 := congrArg Int32.toInt c_25
                      subst hR
                      exact W.vret hx hb hr (fun t ht hW9 => ⟨⟨Ω_22, rfl, ⟨h_p0, hE⟩, by rw [oB, ht]; exact hW⟩, hS.F ht⟩) hS.2.2 dX7_advance_238
                    · rw [if_neg c_25] at hR
                      have i_25 := rne c_25
                      refine lv_aload_n hx hb dX7_advance_189 rfl (lv_at hl 0 rfl) ?_
                      refine lv_dup hx hb dX7_advance_190 rfl ?_
                      refine o_get hx hb hts hown hK hW (inTok_o h_p0) rfl ig7 2 (by decide) fl_X7_15 rfl dX7_advance_191 ?_
                      refine lv_iconst (v := (1 : Int32)) hx hb dX7_advance_194 (by decide) ?_
                      refine lv_iadd hx hb dX7_advance_195 ?_
                      refine vTok_2 hx hb hts hown hK hW hS hA h_p0 fl_X7_15 dX7_advance_196 (fun Ω_26 H locs h_p0 hF_26 hW hS => ?_)
                      have h_p0t := h_p0t.keep (fun q h1 h2 => hF_26 q (by omega))
                      have hE : ∀ q : Nat, (q < p0 ∨ p0 + 1 ≤ q) → Ω_26 q = Ω q := fun q g0 => (hF_26 q (by omega)).trans (hE q g0)
                      refine lv_goto (tgt := 161) hx hb dX7_advance_199 (by decide) ?_
                      have j_27 : (1 : Int32).toInt = 1 := by decide
                      try have j_28 : (p0_1_20 + (1 : Int32)).toInt = p0_1_20.toInt + (1 : Int32).toInt := fb_addI (by omega) (by omega)
                      exact ih161 (p0_1_20 + (1 : Int32)) Ω_26 H locs (by omega) h_p0 h_p0t hE hW hS ls (lv_sub hl [0] rfl) hR
              exact L161 4000 p0_0_2 Ω_19 H locs (by omega) h_p0 h_p0t hE hW hS ls (lv_sub hl [0] rfl) hR
          · rw [if_neg c_9] at hR
            have i_9 := rne c_9
            refine lv_aload_n hx hb dX7_advance_96 rfl (lv_at hl 0 rfl) ?_
            refine lv_iconst (v := (1 : Int32)) hx hb dX7_advance_97 (by decide) ?_
            refine vTok_3 hx hb hts hown hK hW hS hA h_p0 fl_X7_31 dX7_advance_98 (fun Ω_29 H locs h_p0 hF_29 hW hS => ?_)
            have h_p0t := h_p0t.keep (fun q h1 h2 => hF_29 q (by omega))
            have hE : ∀ q : Nat, (q < p0 ∨ p0 + 1 ≤ q) → Ω_29 q = Ω q := fun q g0 => (hF_29 q (by omega)).trans (hE q g0)
            have L101 : ∀ (n_31 : Nat) (p0_1_30 : Int32) (Ω_32 : Om) (H : Heap) (locs : List Loc), (0 ≤ p0_1_30.toInt ∧ p0_1_30.toInt ≤ p0t_1.toInt ∧ 160 - p0_1_30.toInt < n_31) → inTok G Ω_32 p0 p0t p0_0_2 p0_1_30 (1 : Int32) → inTxt G Ω_32 p0t p0t_0 p0t_1 → (∀ q : Nat, (q < p0 ∨ p0 + 1 ≤ q) → Ω_32 q = Ω q) → oW G A Ω_32 H → va_S A s.heap H locs → ∀ ls : Array Slot, lv_has ls 1 [(0, .ref p0)] → (f_X7_advance_L101 p0_0_2 (1 : Int32) p0t_0 p0t_1 n_31 p0_1_30) = R → W p l e (headSpec (wz yX7_advance cX7_advance 1 none) ({ frames := 1, cells := 0, slots := 0, locals := 21 } : Room)).room s m ([.ref p0] : List Value).toArray below meth c H locs 0 0 (MQ below (va_Qv (fun (Ω1 : Om) => inTok G Ω1 p0 p0t (R.1) (R.2.1) (R.2.2) ∧ (∀ q : Nat, (q < p0 ∨ p0 + 1 ≤ q) → Ω1 q = Ω q)) (oB G A) A) ([.ref p0] : List Value).toArray s 0 0 A) (F0 m 101 ls []) := by
              intro n_31
              induction n_31 with
              | zero =>
                intro p0_1_30 Ω_32 H locs v_101_0 h_p0 h_p0t hE hW hS ls hl hR
                exfalso
                omega
              | succ n_31 ih101 =>
                intro p0_1_30 Ω_32 H locs v_101_0 h_p0 h_p0t hE hW hS ls hl hR
                rw [f_X7_advance_L101] at hR
                refine lv_aload_n hx hb dX7_advance_101 rfl (lv_at hl 0 rfl) ?_
                refine o_get hx hb hts hown hK hW (inTok_o h_p0) rfl ig7 2 (by decide) fl_X7_15 rfl dX7_advance_102 ?_
                refine lv_aload_n hx hb dX7_advance_105 rfl (lv_at hl 0 rfl) ?_
                refine o_get hx hb hts hown hK hW (inTok_o h_p0) rfl ig7 0 (by decide) fl_X7_9 rfl dX7_advance_106 ?_
                refine o_get hx hb hts hown hK hW (inTxt_o h_p0t) rfl ig6 1 (by decide) fl_X7_22 rfl dX7_advance_109 ?_
                refine lv_icmp_ge (tgt := 238) hx hb dX7_advance_112 (by decide) (fun c_33 => ?_) (fun c_33 => ?_)
                · rw [if_pos c_33] at hR
                  have i_33 := rle c_33
                  subst hR
                  exact W.vret hx hb hr (fun t ht hW9 => ⟨⟨Ω_32, rfl, ⟨h_p0, hE⟩, by rw [oB, ht]; exact hW⟩, hS.F ht⟩) hS.2.2 dX7_advance_238
                · rw [if_neg c_33] at hR
                  have i_33 := rnle c_33
                  refine lv_aload_n hx hb dX7_advance_115 rfl (lv_at hl 0 rfl) ?_
                  refine o_get hx hb hts hown hK hW (inTok_o h_p0) rfl ig7 0 (by decide) fl_X7_9 rfl dX7_advance_116 ?_
                  refine lv_aload_n hx hb dX7_advance_119 rfl (lv_at hl 0 rfl) ?_
                  refine o_get hx hb hts hown hK hW (inTok_o h_p0) rfl ig7 2 (by decide) fl_X7_15 rfl dX7_advance_120 ?_
                  refine o_ViR (rest := []) (As := [.int p0_1_30]) (n := 1) hx hb hml hown hts hK hN hZ hW hS hA (c_X6_isLetter l G A Ω_32 p0t p0t_0 p0t_1 p0_1_30 (by omega) (by omega) h_p0t) (inTxt_o h_p0t) rfl (good_V ml_X7_34 im_X6_isLetter se_X6_isLetter ini_X6 co_X6_isLetter) (by decide +kernel) ⟨Nat.zero_le _, Nat.zero_le _⟩ hl.1 (Nat.le_of_ble_eq_true rfl) rfl rfl dX7_advance_123 (fun r H locs hp hW hS => ?_)
                  obtain ⟨rfl, hz_34⟩ := hp
                  refine lv_if_eq (tgt := 238) hx hb dX7_advance_126 (by decide) (fun c_35 => ?_) (fun c_35 => ?_)
                  · rw [if_pos c_35] at hR
                    have i_35 := congrArg Int32.toInt c_35
                    subst hR
                    exact W.vret hx hb hr (fun t ht hW9 => ⟨⟨Ω_32, rfl, ⟨h_p0, hE⟩, by rw [oB, ht]; exact hW⟩, hS.F ht⟩) hS.2.2 dX7_advance_238
                  · rw [if_neg c_35] at hR
                    have i_35 := rne c_35
                    refine lv_aload_n hx hb dX7_advance_129 rfl (lv_at hl 0 rfl) ?_
                    refine lv_dup hx hb dX7_advance_130 rfl ?_
                    refine o_get hx hb hts hown hK hW (inTok_o h_p0) rfl ig7 2 (by decide) fl_X7_15 rfl dX7_advance_131 ?_
                    refine lv_iconst (v := (1 : Int32)) hx hb dX7_advance_134 (by decide) ?_
                    refine lv_iadd hx hb dX7_advance_135 ?_
                    refine vTok_2 hx hb hts hown hK hW hS hA h_p0 fl_X7_15 dX7_advance_136 (fun Ω_36 H locs h_p0 hF_36 hW hS => ?_)
                    have h_p0t := h_p0t.keep (fun q h1 h2 => hF_36 q (by omega))
                    have hE : ∀ q : Nat, (q < p0 ∨ p0 + 1 ≤ q) → Ω_36 q = Ω q := fun q g0 => (hF_36 q (by omega)).trans (hE q g0)
                    refine lv_goto (tgt := 101) hx hb dX7_advance_139 (by decide) ?_
                    have j_37 : (1 : Int32).toInt = 1 := by decide
                    try have j_38 : (p0_1_30 + (1 : Int32)).toInt = p0_1_30.toInt + (1 : Int32).toInt := fb_addI (by omega) (by omega)
                    exact ih101 (p0_1_30 + (1 : Int32)) Ω_36 H locs (by omega) h_p0 h_p0t hE hW hS ls (lv_sub hl [0] rfl) hR
            exact L101 4000 p0_0_2 Ω_29 H locs (by omega) h_p0 h_p0t hE hW hS ls (lv_sub hl [0] rfl) hR
        · rw [if_neg c_7] at hR
          have i_7 := rnlt c_7
          refine lv_aload_n hx hb dX7_advance_74 rfl (lv_at hl 0 rfl) ?_
          refine lv_iconst (v := (4 : Int32)) hx hb dX7_advance_75 (by decide) ?_
          refine vTok_3 hx hb hts hown hK hW hS hA h_p0 fl_X7_31 dX7_advance_76 (fun Ω_39 H locs h_p0 hF_39 hW hS => ?_)
          have h_p0t := h_p0t.keep (fun q h1 h2 => hF_39 q (by omega))
          have hE : ∀ q : Nat, (q < p0 ∨ p0 + 1 ≤ q) → Ω_39 q = Ω q := fun q g0 => (hF_39 q (by omega)).trans (hE q g0)
          refine lv_goto (tgt := 238) hx hb dX7_advance_79 (by decide) ?_
          subst hR
          exact W.vret hx hb hr (fun t ht hW9 => ⟨⟨Ω_39, rfl, ⟨h_p0, hE⟩, by rw [oB, ht]; exact hW⟩, hS.F ht⟩) hS.2.2 dX7_advance_238
      refine lv_icmp_ge (tgt := 52) hx hb dX7_advance_19 (by decide) (fun c_40 => ?_) (fun c_40 => ?_)
      · rw [if_pos c_40] at hR
        have i_40 := rle c_40
        exact J52 H locs hW hS ls (lv_sub hl [0] rfl) hR
      · rw [if_neg c_40] at hR
        have i_40 := rnle c_40
        refine lv_aload_n hx hb dX7_advance_22 rfl (lv_at hl 0 rfl) ?_
        refine o_get hx hb hts hown hK hW (inTok_o h_p0) rfl ig7 0 (by decide) fl_X7_9 rfl dX7_advance_23 ?_
        refine o_get hx hb hts hown hK hW (inTxt_o h_p0t) rfl ig6 0 (by decide) fl_X7_27 rfl dX7_advance_26 ?_
        refine lv_aload_n hx hb dX7_advance_29 rfl (lv_at hl 0 rfl) ?_
        refine o_get hx hb hts hown hK hW (inTok_o h_p0) rfl ig7 1 (by decide) fl_X7_19 rfl dX7_advance_30 ?_
        refine o_iald hx hb hK hW (inTxt_a0 h_p0t) (vp_in_iff.mpr ⟨by omega, by omega⟩) dX7_advance_33 ?_
        refine lv_bipush (v := (32 : Int32)) hx hb dX7_advance_34 (by decide) ?_
        have j_42 : (32 : Int32).toInt = 32 := by decide
        refine lv_icmp_ne (tgt := 52) hx hb dX7_advance_36 (by decide) (fun c_41 => ?_) (fun c_41 => ?_)
        · rw [if_neg c_41] at hR
          have i_41 := rne c_41
          exact J52 H locs hW hS ls (lv_sub hl [0] rfl) hR
        · rw [if_pos c_41] at hR
          have i_41 := congrArg Int32.toInt c_41
          refine lv_aload_n hx hb dX7_advance_39 rfl (lv_at hl 0 rfl) ?_
          refine lv_dup hx hb dX7_advance_40 rfl ?_
          refine o_get hx hb hts hown hK hW (inTok_o h_p0) rfl ig7 1 (by decide) fl_X7_19 rfl dX7_advance_41 ?_
          refine lv_iconst (v := (1 : Int32)) hx hb dX7_advance_44 (by decide) ?_
          refine lv_iadd hx hb dX7_advance_45 ?_
          refine vTok_1 hx hb hts hown hK hW hS hA h_p0 fl_X7_19 dX7_advance_46 (fun Ω_43 H locs h_p0 hF_43 hW hS => ?_)
          have h_p0t := h_p0t.keep (fun q h1 h2 => hF_43 q (by omega))
          have hE : ∀ q : Nat, (q < p0 ∨ p0 + 1 ≤ q) → Ω_43 q = Ω q := fun q g0 => (hF_43 q (by omega)).trans (hE q g0)
          refine lv_goto (tgt := 8) hx hb dX7_advance_49 (by decide) ?_
          have j_44 : (1 : Int32).toInt = 1 := by decide
          try have j_45 : (p0_0_2 + (1 : Int32)).toInt = p0_0_2.toInt + (1 : Int32).toInt := fb_addI (by omega) (by omega)
          exact ih8 (p0_0_2 + (1 : Int32)) Ω_43 H locs (by omega) h_p0 h_p0t hE hW hS ls (lv_sub hl [0] rfl) hR
  exact L8 4000 p0_1 Ω_1 H locs (by omega) h_p0 h_p0t hE hW hS ls (lv_sub hl [0] rfl) hR
set_option maxHeartbeats 4000000 in
set_option maxRecDepth 100000 in
theorem c_X7_letter (l : Launch) (G : Gm) (A : Nat → Prop) (Ω : Om) (p0 : Nat) (p0t : Nat) (p0_0 : Int32) (p0_1 : Int32) (p0_2 : Int32) (p0t_0 : Fn) (p0t_1 : Int32) (hT_p0t : 0 ≤ p0t_1.toInt ∧ p0t_1.toInt ≤ 160) (hk : 0 ≤ p0_0.toInt ∧ p0_0.toInt ≤ p0_1.toInt ∧ p0_1.toInt ≤ p0t_1.toInt) (h_p0 : inTok G Ω p0 p0t p0_0 p0_1 p0_2) (h_p0t : inTxt G Ω p0t p0t_0 p0t_1) : Met l yX7_letter (wz yX7_letter cX7_letter 1 (some .int)) ({ frames := 0, cells := 0, slots := 0, locals := 0 } : Room) (va_Pc [.ref p0] (oS G A Ω)) (va_Qi (fun (r : Int32) (Ω1 : Om) => r = (f_X7_letter p0_0 p0_1 p0_2 p0t_0) ∧ Ω1 = Ω) (oB G A) A) 0 0 A := by
  refine Met.ofW (cc := cX7_letter) (maxL := 1) (ret := (some .int)) (by decide) rfl ?_
  intro p e s m args below meth c s₁ B hml hv
  obtain ⟨rfl, hW, hK, hN, hZ⟩ := hv
  have hx := B.exec
  have hb := B.bytes
  have hr := B.returns
  have hts : ∀ w ∈ gt, w.before _ s = true := fun w hw => atoms_spec (ws := wz yX7_letter cX7_letter 1 (some .int)) B.pre w (List.mem_cons_of_mem _ hw)
  have hown : s.vm.findClass RX7 = some m.cls := findClass_of_methodNamed B.named
  have hlocks := B.notSynchronized
  have hA : ∀ q, A q → A q := fun _ h => h
  have hS : va_S A s.heap s.heap [] := va_S.rf
  have hS0 := hS
  have hl := lv_entry ([.ref p0]) (n := 1) (Nat.le_of_ble_eq_true rfl)
  rw [lg_entry_eq]
  generalize (lg_sl ([.ref p0]) ++ List.replicate (1 - (lg_sl ([.ref p0])).length) Slot.unset).toArray = ls at hl ⊢
  have hl : lv_has ls 1 [(0, .ref p0)] := hl
  generalize hR : (f_X7_letter p0_0 p0_1 p0_2 p0t_0) = R
  rw [f_X7_letter] at hR
  refine lv_aload_n hx hb dX7_letter_0 rfl (lv_at hl 0 rfl) ?_
  refine o_get hx hb hts hown hK hW (inTok_o h_p0) rfl ig7 3 (by decide) fl_X7_31 rfl dX7_letter_1 ?_
  refine lv_iconst (v := (1 : Int32)) hx hb dX7_letter_4 (by decide) ?_
  have j_2 : (1 : Int32).toInt = 1 := by decide
  refine lv_icmp_ne (tgt := 36) hx hb dX7_letter_5 (by decide) (fun c_1 => ?_) (fun c_1 => ?_)
  · rw [if_neg c_1] at hR
    have i_1 := rne c_1
    refine lv_bipush (v := (-9 : Int32)) hx hb dX7_letter_36 (by decide) ?_
    subst hR
    exact W.iret (v := (-9 : Int32)) hx hb hr (fun t ht hW9 => ⟨⟨(-9 : Int32), Ω, rfl, ⟨rfl, rfl⟩, by rw [oB, ht]; exact hW⟩, hS.F ht⟩) hS.2.2 dX7_letter_38
  · rw [if_pos c_1] at hR
    have i_1 := congrArg Int32.toInt c_1
    refine lv_aload_n hx hb dX7_letter_8 rfl (lv_at hl 0 rfl) ?_
    refine o_get hx hb hts hown hK hW (inTok_o h_p0) rfl ig7 2 (by decide) fl_X7_15 rfl dX7_letter_9 ?_
    refine lv_aload_n hx hb dX7_letter_12 rfl (lv_at hl 0 rfl) ?_
    refine o_get hx hb hts hown hK hW (inTok_o h_p0) rfl ig7 1 (by decide) fl_X7_19 rfl dX7_letter_13 ?_
    refine lv_isub hx hb dX7_letter_16 ?_
    refine lv_iconst (v := (1 : Int32)) hx hb dX7_letter_17 (by decide) ?_
    try have j_4 : (p0_1 - p0_0).toInt = p0_1.toInt - p0_0.toInt := fb_subI (by omega) (by omega)
    refine lv_icmp_ne (tgt := 36) hx hb dX7_letter_18 (by decide) (fun c_3 => ?_) (fun c_3 => ?_)
    · rw [if_neg c_3] at hR
      have i_3 := rne c_3
      refine lv_bipush (v := (-9 : Int32)) hx hb dX7_letter_36 (by decide) ?_
      subst hR
      exact W.iret (v := (-9 : Int32)) hx hb hr (fun t ht hW9 => ⟨⟨(-9 : Int32), Ω, rfl, ⟨rfl, rfl⟩, by rw [oB, ht]; exact hW⟩, hS.F ht⟩) hS.2.2 dX7_letter_38
    · rw [if_pos c_3] at hR
      have i_3 := congrArg Int32.toInt c_3
      refine lv_aload_n hx hb dX7_letter_21 rfl (lv_at hl 0 rfl) ?_
      refine o_get hx hb hts hown hK hW (inTok_o h_p0) rfl ig7 0 (by decide) fl_X7_9 rfl dX7_letter_22 ?_
      refine o_get hx hb hts hown hK hW (inTxt_o h_p0t) rfl ig6 0 (by decide) fl_X7_27 rfl dX7_letter_25 ?_
      refine lv_aload_n hx hb dX7_letter_28 rfl (lv_at hl 0 rfl) ?_
      refine o_get hx hb hts hown hK hW (inTok_o h_p0) rfl ig7 1 (by decide) fl_X7_19 rfl dX7_letter_29 ?_
      refine o_iald hx hb hK hW (inTxt_a0 h_p0t) (vp_in_iff.mpr ⟨by omega, by omega⟩) dX7_letter_32 ?_
      refine lv_goto (tgt := 38) hx hb dX7_letter_33 (by decide) ?_
      subst hR
      exact W.iret (v := (p0t_0 p0_0.toNatClampNeg)) hx hb hr (fun t ht hW9 => ⟨⟨(p0t_0 p0_0.toNatClampNeg), Ω, rfl, ⟨rfl, rfl⟩, by rw [oB, ht]; exact hW⟩, hS.F ht⟩) hS.2.2 dX7_letter_38
set_option maxHeartbeats 4000000 in
set_option maxRecDepth 100000 in
theorem c_X7_number (l : Launch) (G : Gm) (A : Nat → Prop) (Ω : Om) (p0 : Nat) (p0t : Nat) (p0_0 : Int32) (p0_1 : Int32) (p0_2 : Int32) (p0t_0 : Fn) (p0t_1 : Int32) (hT_p0t : 0 ≤ p0t_1.toInt ∧ p0t_1.toInt ≤ 160) (hk : 0 ≤ p0_0.toInt ∧ p0_0.toInt ≤ p0_1.toInt ∧ p0_1.toInt ≤ p0t_1.toInt) (h_p0 : inTok G Ω p0 p0t p0_0 p0_1 p0_2) (h_p0t : inTxt G Ω p0t p0t_0 p0t_1) : Met l yX7_number (wz yX7_number cX7_number 4 (some .int)) ({ frames := 0, cells := 0, slots := 0, locals := 0 } : Room) (va_Pc [.ref p0] (oS G A Ω)) (va_Qi (fun (r : Int32) (Ω1 : Om) => r = (f_X7_number p0_0 p0_1 p0_2 p0t_0) ∧ Ω1 = Ω) (oB G A) A) 0 0 A := by
  refine Met.ofW (cc := cX7_number) (maxL := 4) (ret := (some .int)) (by decide) rfl ?_
  intro p e s m args below meth c s₁ B hml hv
  obtain ⟨rfl, hW, hK, hN, hZ⟩ := hv
  have hx := B.exec
  have hb := B.bytes
  have hr := B.returns
  have hts : ∀ w ∈ gt, w.before _ s = true := fun w hw => atoms_spec (ws := wz yX7_number cX7_number 4 (some .int)) B.pre w (List.mem_cons_of_mem _ hw)
  have hown : s.vm.findClass RX7 = some m.cls := findClass_of_methodNamed B.named
  have hlocks := B.notSynchronized
  have hA : ∀ q, A q → A q := fun _ h => h
  have hS : va_S A s.heap s.heap [] := va_S.rf
  have hS0 := hS
  have hl := lv_entry ([.ref p0]) (n := 4) (Nat.le_of_ble_eq_true rfl)
  rw [lg_entry_eq]
  generalize (lg_sl ([.ref p0]) ++ List.replicate (4 - (lg_sl ([.ref p0])).length) Slot.unset).toArray = ls at hl ⊢
  have hl : lv_has ls 4 [(0, .ref p0)] := hl
  generalize hR : (f_X7_number p0_0 p0_1 p0_2 p0t_0) = R
  rw [f_X7_number] at hR
  refine lv_aload_n hx hb dX7_number_0 rfl (lv_at hl 0 rfl) ?_
  refine o_get hx hb hts hown hK hW (inTok_o h_p0) rfl ig7 2 (by decide) fl_X7_15 rfl dX7_number_1 ?_
  refine lv_aload_n hx hb dX7_number_4 rfl (lv_at hl 0 rfl) ?_
  refine o_get hx hb hts hown hK hW (inTok_o h_p0) rfl ig7 1 (by decide) fl_X7_19 rfl dX7_number_5 ?_
  refine lv_isub hx hb dX7_number_8 ?_
  refine lv_istore_n (lv' := [(1, .int (p0_1 - p0_0)), (0, .ref p0)]) hx hb dX7_number_9 rfl hl (by decide) rfl (fun ls hl => ?_)
  refine lv_aload_n hx hb dX7_number_10 rfl (lv_at hl 1 rfl) ?_
  refine o_get hx hb hts hown hK hW (inTok_o h_p0) rfl ig7 3 (by decide) fl_X7_31 rfl dX7_number_11 ?_
  refine lv_iconst (v := (2 : Int32)) hx hb dX7_number_14 (by decide) ?_
  have j_2 : (2 : Int32).toInt = 2 := by decide
  refine lv_icmp_ne (tgt := 45) hx hb dX7_number_15 (by decide) (fun c_1 => ?_) (fun c_1 => ?_)
  · rw [if_neg c_1] at hR
    have i_1 := rne c_1
    refine lv_bipush (v := (-9 : Int32)) hx hb dX7_number_45 (by decide) ?_
    subst hR
    exact W.iret (v := (-9 : Int32)) hx hb hr (fun t ht hW9 => ⟨⟨(-9 : Int32), Ω, rfl, ⟨rfl, rfl⟩, by rw [oB, ht]; exact hW⟩, hS.F ht⟩) hS.2.2 dX7_number_47
  · rw [if_pos c_1] at hR
    have i_1 := congrArg Int32.toInt c_1
    refine lv_iload_n hx hb dX7_number_18 rfl (lv_at hl 0 rfl) ?_
    refine lv_iconst (v := (3 : Int32)) hx hb dX7_number_19 (by decide) ?_
    have j_4 : (3 : Int32).toInt = 3 := by decide
    try have j_5 : (p0_1 - p0_0).toInt = p0_1.toInt - p0_0.toInt := fb_subI (by omega) (by omega)
    refine lv_icmp_gt (tgt := 45) hx hb dX7_number_20 (by decide) (fun c_3 => ?_) (fun c_3 => ?_)
    · rw [if_pos c_3] at hR
      have i_3 := rlt c_3
      refine lv_bipush (v := (-9 : Int32)) hx hb dX7_number_45 (by decide) ?_
      subst hR
      exact W.iret (v := (-9 : Int32)) hx hb hr (fun t ht hW9 => ⟨⟨(-9 : Int32), Ω, rfl, ⟨rfl, rfl⟩, by rw [oB, ht]; exact hW⟩, hS.F ht⟩) hS.2.2 dX7_number_47
    · rw [if_neg c_3] at hR
      have i_3 := rnlt c_3
      refine lv_iload_n hx hb dX7_number_23 rfl (lv_at hl 0 rfl) ?_
      refine lv_iconst (v := (1 : Int32)) hx hb dX7_number_24 (by decide) ?_
      have J48 : ∀ (H : Heap) (locs : List Loc), oW G A Ω H → va_S A s.heap H locs → ∀ ls : Array Slot, lv_has ls 4 [(0, .ref p0)] → (f_X7_number_J48 p0_0 p0_1 p0t_0) = R → W p l e (headSpec (wz yX7_number cX7_number 4 (some .int)) ({ frames := 0, cells := 0, slots := 0, locals := 0 } : Room)).room s m ([.ref p0] : List Value).toArray below meth c H locs 0 0 (MQ below (va_Qi (fun (r : Int32) (Ω1 : Om) => r = R ∧ Ω1 = Ω) (oB G A) A) ([.ref p0] : List Value).toArray s 0 0 A) (F0 m 48 ls []) := by
        intro H locs hW hS ls hl hR
        rw [f_X7_number_J48] at hR
        refine lv_iconst (v := (0 : Int32)) hx hb dX7_number_48 (by decide) ?_
        refine lv_istore_n (lv' := [(2, .int (0 : Int32)), (0, .ref p0)]) hx hb dX7_number_49 rfl hl (by decide) rfl (fun ls hl => ?_)
        refine lv_aload_n hx hb dX7_number_50 rfl (lv_at hl 1 rfl) ?_
        refine o_get hx hb hts hown hK hW (inTok_o h_p0) rfl ig7 1 (by decide) fl_X7_19 rfl dX7_number_51 ?_
        refine lv_istore_n (lv' := [(3, .int p0_0), (2, .int (0 : Int32)), (0, .ref p0)]) hx hb dX7_number_54 rfl hl (by decide) rfl (fun ls hl => ?_)
        have L55 : ∀ (n_8 : Nat) (x2_7 : Int32) (x3_7 : Int32) (H : Heap) (locs : List Loc), (0 ≤ x3_7.toInt ∧ x3_7.toInt ≤ p0_1.toInt ∧ p0_1.toInt - x3_7.toInt < n_8) → oW G A Ω H → va_S A s.heap H locs → ∀ ls : Array Slot, lv_has ls 4 [(0, .ref p0), (2, .int x2_7), (3, .int x3_7)] → (f_X7_number_L55 p0_1 p0t_0 n_8 x2_7 x3_7) = R → W p l e (headSpec (wz yX7_number cX7_number 4 (some .int)) ({ frames := 0, cells := 0, slots := 0, locals := 0 } : Room)).room s m ([.ref p0] : List Value).toArray below meth c H locs 0 0 (MQ below (va_Qi (fun (r : Int32) (Ω1 : Om) => r = R ∧ Ω1 = Ω) (oB G A) A) ([.ref p0] : List Value).toArray s 0 0 A) (F0 m 55 ls []) := by
          intro n_8
          induction n_8 with
          | zero =>
            intro x2_7 x3_7 H locs v_55_0 hW hS ls hl hR
            exfalso
            omega
          | succ n_8 ih55 =>
            intro x2_7 x3_7 H locs v_55_0 hW hS ls hl hR
            rw [f_X7_number_L55] at hR
            refine lv_iload_n hx hb dX7_number_55 rfl (lv_at hl 2 rfl) ?_
            refine lv_aload_n hx hb dX7_number_56 rfl (lv_at hl 0 rfl) ?_
            refine o_get hx hb hts hown hK hW (inTok_o h_p0) rfl ig7 2 (by decide) fl_X7_15 rfl dX7_number_57 ?_
            refine lv_icmp_ge (tgt := 87) hx hb dX7_number_60 (by decide) (fun c_9 => ?_) (fun c_9 => ?_)
            · rw [if_pos c_9] at hR
              have i_9 := rle c_9
              refine lv_iload_n hx hb dX7_number_87 rfl (lv_at hl 1 rfl) ?_
              subst hR
              exact W.iret (v := x2_7) hx hb hr (fun t ht hW9 => ⟨⟨x2_7, Ω, rfl, ⟨rfl, rfl⟩, by rw [oB, ht]; exact hW⟩, hS.F ht⟩) hS.2.2 dX7_number_88
            · rw [if_neg c_9] at hR
              have i_9 := rnle c_9
              refine lv_bipush (v := (10 : Int32)) hx hb dX7_number_63 (by decide) ?_
              refine lv_iload_n hx hb dX7_number_65 rfl (lv_at hl 1 rfl) ?_
              refine lv_imul hx hb dX7_number_66 ?_
              refine lv_aload_n hx hb dX7_number_67 rfl (lv_at hl 0 rfl) ?_
              refine o_get hx hb hts hown hK hW (inTok_o h_p0) rfl ig7 0 (by decide) fl_X7_9 rfl dX7_number_68 ?_
              refine o_get hx hb hts hown hK hW (inTxt_o h_p0t) rfl ig6 0 (by decide) fl_X7_27 rfl dX7_number_71 ?_
              refine lv_iload_n hx hb dX7_number_74 rfl (lv_at hl 2 rfl) ?_
              refine o_iald hx hb hK hW (inTxt_a0 h_p0t) (vp_in_iff.mpr ⟨by omega, by omega⟩) dX7_number_75 ?_
              refine lv_iadd hx hb dX7_number_76 ?_
              refine lv_bipush (v := (48 : Int32)) hx hb dX7_number_77 (by decide) ?_
              refine lv_isub hx hb dX7_number_79 ?_
              refine lv_istore_n (lv' := [(2, .int ((((10 : Int32) * x2_7) + (p0t_0 x3_7.toNatClampNeg)) - (48 : Int32))), (0, .ref p0), (3, .int x3_7)]) hx hb dX7_number_80 rfl hl (by decide) rfl (fun ls hl => ?_)
              refine lv_iinc (v := (x3_7 + (1 : Int32))) (lv' := [(3, .int (x3_7 + (1 : Int32))), (2, .int ((((10 : Int32) * x2_7) + (p0t_0 x3_7.toNatClampNeg)) - (48 : Int32))), (0, .ref p0)]) hx hb dX7_number_81 hl (k := 2) rfl rfl (by decide) rfl (fun ls hl => ?_)
              refine lv_goto (tgt := 55) hx hb dX7_number_84 (by decide) ?_
              have j_10 : (10 : Int32).toInt = 10 := by decide
              try have j_11 : ((10 : Int32) * x2_7).toInt = 10 * x2_7.toInt := rg_mul2 (by decide) (by omega) (by omega)
              try have j_12 : (((10 : Int32) * x2_7) + (p0t_0 x3_7.toNatClampNeg)).toInt = ((10 : Int32) * x2_7).toInt + (p0t_0 x3_7.toNatClampNeg).toInt := fb_addI (by omega) (by omega)
              have j_13 : (48 : Int32).toInt = 48 := by decide
              try have j_14 : ((((10 : Int32) * x2_7) + (p0t_0 x3_7.toNatClampNeg)) - (48 : Int32)).toInt = (((10 : Int32) * x2_7) + (p0t_0 x3_7.toNatClampNeg)).toInt - (48 : Int32).toInt := fb_subI (by omega) (by omega)
              have j_15 : (1 : Int32).toInt = 1 := by decide
              try have j_16 : (x3_7 + (1 : Int32)).toInt = x3_7.toInt + (1 : Int32).toInt := fb_addI (by omega) (by omega)
              exact ih55 ((((10 : Int32) * x2_7) + (p0t_0 x3_7.toNatClampNeg)) - (48 : Int32)) (x3_7 + (1 : Int32)) H locs (by omega) hW hS ls (lv_sub hl [2, 1, 0] rfl) hR
        have j_17 : (0 : Int32).toInt = 0 := by decide
        exact L55 4000 (0 : Int32) p0_0 H locs (by omega) hW hS ls (lv_sub hl [2, 1, 0] rfl) hR
      have j_19 : (1 : Int32).toInt = 1 := by decide
      refine lv_icmp_le (tgt := 48) hx hb dX7_number_25 (by decide) (fun c_18 => ?_) (fun c_18 => ?_)
      · rw [if_pos c_18] at hR
        have i_18 := rle c_18
        exact J48 s.heap [] hW hS ls (lv_sub hl [1] rfl) hR
      · rw [if_neg c_18] at hR
        have i_18 := rnle c_18
        refine lv_aload_n hx hb dX7_number_28 rfl (lv_at hl 1 rfl) ?_
        refine o_get hx hb hts hown hK hW (inTok_o h_p0) rfl ig7 0 (by decide) fl_X7_9 rfl dX7_number_29 ?_
        refine o_get hx hb hts hown hK hW (inTxt_o h_p0t) rfl ig6 0 (by decide) fl_X7_27 rfl dX7_number_32 ?_
        refine lv_aload_n hx hb dX7_number_35 rfl (lv_at hl 1 rfl) ?_
        refine o_get hx hb hts hown hK hW (inTok_o h_p0) rfl ig7 1 (by decide) fl_X7_19 rfl dX7_number_36 ?_
        refine o_iald hx hb hK hW (inTxt_a0 h_p0t) (vp_in_iff.mpr ⟨by omega, by omega⟩) dX7_number_39 ?_
        refine lv_bipush (v := (48 : Int32)) hx hb dX7_number_40 (by decide) ?_
        have j_21 : (48 : Int32).toInt = 48 := by decide
        refine lv_icmp_ne (tgt := 48) hx hb dX7_number_42 (by decide) (fun c_20 => ?_) (fun c_20 => ?_)
        · rw [if_neg c_20] at hR
          have i_20 := rne c_20
          exact J48 s.heap [] hW hS ls (lv_sub hl [1] rfl) hR
        · rw [if_pos c_20] at hR
          have i_20 := congrArg Int32.toInt c_20
          refine lv_bipush (v := (-9 : Int32)) hx hb dX7_number_45 (by decide) ?_
          subst hR
          exact W.iret (v := (-9 : Int32)) hx hb hr (fun t ht hW9 => ⟨⟨(-9 : Int32), Ω, rfl, ⟨rfl, rfl⟩, by rw [oB, ht]; exact hW⟩, hS.F ht⟩) hS.2.2 dX7_number_47
set_option maxHeartbeats 4000000 in
set_option maxRecDepth 100000 in
theorem c_X4_takeNumber (l : Launch) (G : Gm) (A : Nat → Prop) (Ω : Om) (p0 : Nat) (p0k : Nat) (p0kt : Nat) (p0b : Nat) (p0k_0 : Int32) (p0k_1 : Int32) (p0k_2 : Int32) (p0kt_0 : Fn) (p0kt_1 : Int32) (x1 : Int32) (x2 : Int32) (hd_p0_p0k : p0 + 1 ≤ p0k ∨ p0k + 1 ≤ p0) (hd_p0_p0kt : p0 + 1 ≤ p0kt ∨ p0kt + 2 ≤ p0) (hd_p0_p0b : p0 + 1 ≤ p0b ∨ p0b + 13 ≤ p0) (hd_p0k_p0kt : p0k + 1 ≤ p0kt ∨ p0kt + 2 ≤ p0k) (hd_p0k_p0b : p0k + 1 ≤ p0b ∨ p0b + 13 ≤ p0k) (hd_p0kt_p0b : p0kt + 2 ≤ p0b ∨ p0b + 13 ≤ p0kt) (hT_p0kt : 0 ≤ p0kt_1.toInt ∧ p0kt_1.toInt ≤ 160) (he : 0 ≤ p0k_1.toInt ∧ p0k_1.toInt ≤ p0kt_1.toInt) (h_p0 : inPar G Ω p0 p0k p0b) (h_p0k : inTok G Ω p0k p0kt p0k_0 p0k_1 p0k_2) (h_p0kt : inTxt G Ω p0kt p0kt_0 p0kt_1) : Met l yX4_takeNumber (wz yX4_takeNumber cX4_takeNumber 4 (some .boolean)) ({ frames := 2, cells := 0, slots := 0, locals := 41 } : Room) (va_Pc [.ref p0, .int x1, .int x2] (oS G A Ω)) (va_Qi (fun (r : Int32) (Ω1 : Om) => r = (f_X4_takeNumber p0k_1 p0kt_0 p0kt_1 x1 x2).1 ∧ (r = 0 ∨ r = 1) ∧ inTok G Ω1 p0k p0kt ((f_X4_takeNumber p0k_1 p0kt_0 p0kt_1 x1 x2).2.1) ((f_X4_takeNumber p0k_1 p0kt_0 p0kt_1 x1 x2).2.2.1) ((f_X4_takeNumber p0k_1 p0kt_0 p0kt_1 x1 x2).2.2.2) ∧ (∀ q : Nat, (q < p0k ∨ p0k + 1 ≤ q) → Ω1 q = Ω q)) (oB G A) A) 0 0 A := by
  refine Met.ofW (cc := cX4_takeNumber) (maxL := 4) (ret := (some .boolean)) (by decide) rfl ?_
  intro p e s m args below meth c s₁ B hml hv
  obtain ⟨rfl, hW, hK, hN, hZ⟩ := hv
  have hx := B.exec
  have hb := B.bytes
  have hr := B.returns
  have hts : ∀ w ∈ gt, w.before _ s = true := fun w hw => atoms_spec (ws := wz yX4_takeNumber cX4_takeNumber 4 (some .boolean)) B.pre w (List.mem_cons_of_mem _ hw)
  have hown : s.vm.findClass RX4 = some m.cls := findClass_of_methodNamed B.named
  have hlocks := B.notSynchronized
  have hA : ∀ q, A q → A q := fun _ h => h
  have hS : va_S A s.heap s.heap [] := va_S.rf
  have hS0 := hS
  have hl := lv_entry ([.ref p0, .int x1, .int x2]) (n := 4) (Nat.le_of_ble_eq_true rfl)
  rw [lg_entry_eq]
  generalize (lg_sl ([.ref p0, .int x1, .int x2]) ++ List.replicate (4 - (lg_sl ([.ref p0, .int x1, .int x2])).length) Slot.unset).toArray = ls at hl ⊢
  have hl : lv_has ls 4 [(0, .ref p0), (1, .int x1), (2, .int x2)] := hl
  have hE : ∀ q : Nat, (q < p0k ∨ p0k + 1 ≤ q) → Ω q = Ω q := by intros; rfl
  generalize hR : (f_X4_takeNumber p0k_1 p0kt_0 p0kt_1 x1 x2) = R
  rw [f_X4_takeNumber] at hR
  refine lv_aload_n hx hb dX4_takeNumber_0 rfl (lv_at hl 0 rfl) ?_
  refine o_get hx hb hts hown hK hW (inPar_o h_p0) rfl ig4 0 (by decide) fl_X4_23 rfl dX4_takeNumber_1 ?_
  refine o_Vv (rest := []) (As := []) (n := 0) hx hb hml hown hts hK hN hZ hW hS hA (c_X7_advance l G A Ω p0k p0kt p0k_0 p0k_1 p0k_2 p0kt_0 p0kt_1 (by omega) (by omega) (by omega) h_p0k h_p0kt) (inTok_o h_p0k) rfl (good_V ml_X4_33 im_X7_advance se_X7_advance ini_X7 co_X7_advance) (by decide +kernel) ⟨Nat.zero_le _, Nat.zero_le _⟩ hl.1 (Nat.le_of_ble_eq_true rfl) rfl rfl dX4_takeNumber_4 (fun Ω_1 H locs hp hW hS => ?_)
  obtain ⟨h_p0k, hF_1⟩ := hp
  have h_p0 := h_p0.keep (fun q h1 h2 => hF_1 q (by omega))
  have h_p0kt := h_p0kt.keep (fun q h1 h2 => hF_1 q (by omega))
  have hE : ∀ q : Nat, (q < p0k ∨ p0k + 1 ≤ q) → Ω_1 q = Ω q := fun q g0 => (hF_1 q (by omega)).trans (hE q g0)
  have qt_1 : 0 ≤ (f_X7_advance p0k_1 p0kt_0 p0kt_1).1.toInt ∧ (f_X7_advance p0k_1 p0kt_0 p0kt_1).1.toInt ≤ (f_X7_advance p0k_1 p0kt_0 p0kt_1).2.1.toInt ∧ (f_X7_advance p0k_1 p0kt_0 p0kt_1).2.1.toInt ≤ p0kt_1.toInt := R_advance hT_p0kt (by omega)
  generalize (f_X7_advance p0k_1 p0kt_0 p0kt_1) = Z_1 at h_p0k hR qt_1
  obtain ⟨z1_0, z1_1, z1_2⟩ := Z_1
  dsimp only at h_p0k hR qt_1
  rw [f_X4_takeNumber_C7] at hR
  refine lv_aload_n hx hb dX4_takeNumber_7 rfl (lv_at hl 0 rfl) ?_
  refine o_get hx hb hts hown hK hW (inPar_o h_p0) rfl ig4 0 (by decide) fl_X4_23 rfl dX4_takeNumber_8 ?_
  refine o_ViR (rest := []) (As := []) (n := 0) hx hb hml hown hts hK hN hZ hW hS hA (c_X7_number l G A Ω_1 p0k p0kt z1_0 z1_1 z1_2 p0kt_0 p0kt_1 (by omega) (by omega) h_p0k h_p0kt) (inTok_o h_p0k) rfl (good_V ml_X4_77 im_X7_number se_X7_number ini_X7 co_X7_number) (by decide +kernel) ⟨Nat.zero_le _, Nat.zero_le _⟩ hl.1 (Nat.le_of_ble_eq_true rfl) rfl rfl dX4_takeNumber_11 (fun r H locs hp hW hS => ?_)
  subst hp
  refine lv_istore_n (lv' := [(3, .int (f_X7_number z1_0 z1_1 z1_2 p0kt_0)), (0, .ref p0), (1, .int x1), (2, .int x2)]) hx hb dX4_takeNumber_14 rfl hl (by decide) rfl (fun ls hl => ?_)
  refine lv_iload_n hx hb dX4_takeNumber_15 rfl (lv_at hl 0 rfl) ?_
  refine lv_bipush (v := (-9 : Int32)) hx hb dX4_takeNumber_16 (by decide) ?_
  have j_4 : (-9 : Int32).toInt = -9 := by decide
  refine lv_icmp_eq (tgt := 35) hx hb dX4_takeNumber_18 (by decide) (fun c_3 => ?_) (fun c_3 => ?_)
  · rw [if_pos c_3] at hR
    have i_3 := congrArg Int32.toInt c_3
    refine lv_iconst (v := (0 : Int32)) hx hb dX4_takeNumber_35 (by decide) ?_
    subst hR
    exact W.zret (v := (0 : Int32)) hx hb hr (nb01 (Or.inl rfl)) (fun t ht hW9 => ⟨⟨(0 : Int32), Ω_1, rfl, ⟨rfl, (Or.inl rfl), h_p0k, hE⟩, by rw [oB, ht]; exact hW⟩, hS.F ht⟩) hS.2.2 dX4_takeNumber_36
  · rw [if_neg c_3] at hR
    have i_3 := rne c_3
    refine lv_iload_n hx hb dX4_takeNumber_21 rfl (lv_at hl 0 rfl) ?_
    refine lv_iload_n hx hb dX4_takeNumber_22 rfl (lv_at hl 2 rfl) ?_
    refine lv_icmp_lt (tgt := 35) hx hb dX4_takeNumber_23 (by decide) (fun c_5 => ?_) (fun c_5 => ?_)
    · rw [if_pos c_5] at hR
      have i_5 := rlt c_5
      refine lv_iconst (v := (0 : Int32)) hx hb dX4_takeNumber_35 (by decide) ?_
      subst hR
      exact W.zret (v := (0 : Int32)) hx hb hr (nb01 (Or.inl rfl)) (fun t ht hW9 => ⟨⟨(0 : Int32), Ω_1, rfl, ⟨rfl, (Or.inl rfl), h_p0k, hE⟩, by rw [oB, ht]; exact hW⟩, hS.F ht⟩) hS.2.2 dX4_takeNumber_36
    · rw [if_neg c_5] at hR
      have i_5 := rnlt c_5
      refine lv_iload_n hx hb dX4_takeNumber_26 rfl (lv_at hl 0 rfl) ?_
      refine lv_iload_n hx hb dX4_takeNumber_27 rfl (lv_at hl 3 rfl) ?_
      refine lv_icmp_gt (tgt := 35) hx hb dX4_takeNumber_28 (by decide) (fun c_6 => ?_) (fun c_6 => ?_)
      · rw [if_pos c_6] at hR
        have i_6 := rlt c_6
        refine lv_iconst (v := (0 : Int32)) hx hb dX4_takeNumber_35 (by decide) ?_
        subst hR
        exact W.zret (v := (0 : Int32)) hx hb hr (nb01 (Or.inl rfl)) (fun t ht hW9 => ⟨⟨(0 : Int32), Ω_1, rfl, ⟨rfl, (Or.inl rfl), h_p0k, hE⟩, by rw [oB, ht]; exact hW⟩, hS.F ht⟩) hS.2.2 dX4_takeNumber_36
      · rw [if_neg c_6] at hR
        have i_6 := rnlt c_6
        refine lv_iconst (v := (1 : Int32)) hx hb dX4_takeNumber_31 (by decide) ?_
        refine lv_goto (tgt := 36) hx hb dX4_takeNumber_32 (by decide) ?_
        subst hR
        exact W.zret (v := (1 : Int32)) hx hb hr (nb01 (Or.inr rfl)) (fun t ht hW9 => ⟨⟨(1 : Int32), Ω_1, rfl, ⟨rfl, (Or.inr rfl), h_p0k, hE⟩, by rw [oB, ht]; exact hW⟩, hS.F ht⟩) hS.2.2 dX4_takeNumber_36
set_option maxHeartbeats 4000000 in
set_option maxRecDepth 100000 in
theorem c_X4_takeSemicolon (l : Launch) (G : Gm) (A : Nat → Prop) (Ω : Om) (p0 : Nat) (p0k : Nat) (p0kt : Nat) (p0b : Nat) (p0k_0 : Int32) (p0k_1 : Int32) (p0k_2 : Int32) (p0kt_0 : Fn) (p0kt_1 : Int32) (hd_p0_p0k : p0 + 1 ≤ p0k ∨ p0k + 1 ≤ p0) (hd_p0_p0kt : p0 + 1 ≤ p0kt ∨ p0kt + 2 ≤ p0) (hd_p0_p0b : p0 + 1 ≤ p0b ∨ p0b + 13 ≤ p0) (hd_p0k_p0kt : p0k + 1 ≤ p0kt ∨ p0kt + 2 ≤ p0k) (hd_p0k_p0b : p0k + 1 ≤ p0b ∨ p0b + 13 ≤ p0k) (hd_p0kt_p0b : p0kt + 2 ≤ p0b ∨ p0b + 13 ≤ p0kt) (hT_p0kt : 0 ≤ p0kt_1.toInt ∧ p0kt_1.toInt ≤ 160) (he : 0 ≤ p0k_1.toInt ∧ p0k_1.toInt ≤ p0kt_1.toInt) (h_p0 : inPar G Ω p0 p0k p0b) (h_p0k : inTok G Ω p0k p0kt p0k_0 p0k_1 p0k_2) (h_p0kt : inTxt G Ω p0kt p0kt_0 p0kt_1) : Met l yX4_takeSemicolon (wz yX4_takeSemicolon cX4_takeSemicolon 1 (some .boolean)) ({ frames := 2, cells := 0, slots := 0, locals := 41 } : Room) (va_Pc [.ref p0] (oS G A Ω)) (va_Qi (fun (r : Int32) (Ω1 : Om) => r = (f_X4_takeSemicolon p0k_1 p0kt_0 p0kt_1).1 ∧ (r = 0 ∨ r = 1) ∧ inTok G Ω1 p0k p0kt ((f_X4_takeSemicolon p0k_1 p0kt_0 p0kt_1).2.1) ((f_X4_takeSemicolon p0k_1 p0kt_0 p0kt_1).2.2.1) ((f_X4_takeSemicolon p0k_1 p0kt_0 p0kt_1).2.2.2) ∧ (∀ q : Nat, (q < p0k ∨ p0k + 1 ≤ q) → Ω1 q = Ω q)) (oB G A) A) 0 0 A := by
  refine Met.ofW (cc := cX4_takeSemicolon) (maxL := 1) (ret := (some .boolean)) (by decide) rfl ?_
  intro p e s m args below meth c s₁ B hml hv
  obtain ⟨rfl, hW, hK, hN, hZ⟩ := hv
  have hx := B.exec
  have hb := B.bytes
  have hr := B.returns
  have hts : ∀ w ∈ gt, w.before _ s = true := fun w hw => atoms_spec (ws := wz yX4_takeSemicolon cX4_takeSemicolon 1 (some .boolean)) B.pre w (List.mem_cons_of_mem _ hw)
  have hown : s.vm.findClass RX4 = some m.cls := findClass_of_methodNamed B.named
  have hlocks := B.notSynchronized
  have hA : ∀ q, A q → A q := fun _ h => h
  have hS : va_S A s.heap s.heap [] := va_S.rf
  have hS0 := hS
  have hl := lv_entry ([.ref p0]) (n := 1) (Nat.le_of_ble_eq_true rfl)
  rw [lg_entry_eq]
  generalize (lg_sl ([.ref p0]) ++ List.replicate (1 - (lg_sl ([.ref p0])).length) Slot.unset).toArray = ls at hl ⊢
  have hl : lv_has ls 1 [(0, .ref p0)] := hl
  have hE : ∀ q : Nat, (q < p0k ∨ p0k + 1 ≤ q) → Ω q = Ω q := by intros; rfl
  generalize hR : (f_X4_takeSemicolon p0k_1 p0kt_0 p0kt_1) = R
  rw [f_X4_takeSemicolon] at hR
  refine lv_aload_n hx hb dX4_takeSemicolon_0 rfl (lv_at hl 0 rfl) ?_
  refine o_get hx hb hts hown hK hW (inPar_o h_p0) rfl ig4 0 (by decide) fl_X4_23 rfl dX4_takeSemicolon_1 ?_
  refine o_Vv (rest := []) (As := []) (n := 0) hx hb hml hown hts hK hN hZ hW hS hA (c_X7_advance l G A Ω p0k p0kt p0k_0 p0k_1 p0k_2 p0kt_0 p0kt_1 (by omega) (by omega) (by omega) h_p0k h_p0kt) (inTok_o h_p0k) rfl (good_V ml_X4_33 im_X7_advance se_X7_advance ini_X7 co_X7_advance) (by decide +kernel) ⟨Nat.zero_le _, Nat.zero_le _⟩ hl.1 (Nat.le_of_ble_eq_true rfl) rfl rfl dX4_takeSemicolon_4 (fun Ω_1 H locs hp hW hS => ?_)
  obtain ⟨h_p0k, hF_1⟩ := hp
  have h_p0 := h_p0.keep (fun q h1 h2 => hF_1 q (by omega))
  have h_p0kt := h_p0kt.keep (fun q h1 h2 => hF_1 q (by omega))
  have hE : ∀ q : Nat, (q < p0k ∨ p0k + 1 ≤ q) → Ω_1 q = Ω q := fun q g0 => (hF_1 q (by omega)).trans (hE q g0)
  have qt_1 : 0 ≤ (f_X7_advance p0k_1 p0kt_0 p0kt_1).1.toInt ∧ (f_X7_advance p0k_1 p0kt_0 p0kt_1).1.toInt ≤ (f_X7_advance p0k_1 p0kt_0 p0kt_1).2.1.toInt ∧ (f_X7_advance p0k_1 p0kt_0 p0kt_1).2.1.toInt ≤ p0kt_1.toInt := R_advance hT_p0kt (by omega)
  generalize (f_X7_advance p0k_1 p0kt_0 p0kt_1) = Z_1 at h_p0k hR qt_1
  obtain ⟨z1_0, z1_1, z1_2⟩ := Z_1
  dsimp only at h_p0k hR qt_1
  rw [f_X4_takeSemicolon_C7] at hR
  refine lv_aload_n hx hb dX4_takeSemicolon_7 rfl (lv_at hl 0 rfl) ?_
  refine o_get hx hb hts hown hK hW (inPar_o h_p0) rfl ig4 0 (by decide) fl_X4_23 rfl dX4_takeSemicolon_8 ?_
  refine o_get hx hb hts hown hK hW (inTok_o h_p0k) rfl ig7 3 (by decide) fl_X4_36 rfl dX4_takeSemicolon_11 ?_
  refine lv_iconst (v := (3 : Int32)) hx hb dX4_takeSemicolon_14 (by decide) ?_
  have j_3 : (3 : Int32).toInt = 3 := by decide
  refine lv_icmp_ne (tgt := 22) hx hb dX4_takeSemicolon_15 (by decide) (fun c_2 => ?_) (fun c_2 => ?_)
  · rw [if_neg c_2] at hR
    have i_2 := rne c_2
    refine lv_iconst (v := (0 : Int32)) hx hb dX4_takeSemicolon_22 (by decide) ?_
    subst hR
    exact W.zret (v := (0 : Int32)) hx hb hr (nb01 (Or.inl rfl)) (fun t ht hW9 => ⟨⟨(0 : Int32), Ω_1, rfl, ⟨rfl, (Or.inl rfl), h_p0k, hE⟩, by rw [oB, ht]; exact hW⟩, hS.F ht⟩) hS.2.2 dX4_takeSemicolon_23
  · rw [if_pos c_2] at hR
    have i_2 := congrArg Int32.toInt c_2
    refine lv_iconst (v := (1 : Int32)) hx hb dX4_takeSemicolon_18 (by decide) ?_
    refine lv_goto (tgt := 23) hx hb dX4_takeSemicolon_19 (by decide) ?_
    subst hR
    exact W.zret (v := (1 : Int32)) hx hb hr (nb01 (Or.inr rfl)) (fun t ht hW9 => ⟨⟨(1 : Int32), Ω_1, rfl, ⟨rfl, (Or.inr rfl), h_p0k, hE⟩, by rw [oB, ht]; exact hW⟩, hS.F ht⟩) hS.2.2 dX4_takeSemicolon_23
set_option maxHeartbeats 4000000 in
set_option maxRecDepth 100000 in
theorem c_X4_readGate (l : Launch) (G : Gm) (A : Nat → Prop) (Ω : Om) (p0 : Nat) (p0k : Nat) (p0kt : Nat) (p0b : Nat) (p0k_0 : Int32) (p0k_1 : Int32) (p0k_2 : Int32) (p0kt_0 : Fn) (p0kt_1 : Int32) (p0b_0 : Blk) (hd_p0_p0k : p0 + 1 ≤ p0k ∨ p0k + 1 ≤ p0) (hd_p0_p0kt : p0 + 1 ≤ p0kt ∨ p0kt + 2 ≤ p0) (hd_p0_p0b : p0 + 1 ≤ p0b ∨ p0b + 13 ≤ p0) (hd_p0k_p0kt : p0k + 1 ≤ p0kt ∨ p0kt + 2 ≤ p0k) (hd_p0k_p0b : p0k + 1 ≤ p0b ∨ p0b + 13 ≤ p0k) (hd_p0kt_p0b : p0kt + 2 ≤ p0b ∨ p0b + 13 ≤ p0kt) (hT_p0kt : 0 ≤ p0kt_1.toInt ∧ p0kt_1.toInt ≤ 160) (hB_p0b : BlkInv p0b_0) (hk : 0 ≤ p0k_0.toInt ∧ p0k_0.toInt ≤ p0k_1.toInt ∧ p0k_1.toInt ≤ p0kt_1.toInt) (h_p0 : inPar G Ω p0 p0k p0b) (h_p0k : inTok G Ω p0k p0kt p0k_0 p0k_1 p0k_2) (h_p0kt : inTxt G Ω p0kt p0kt_0 p0kt_1) (h_p0b : inBlk G Ω p0b p0b_0) : Met l yX4_readGate (wz yX4_readGate cX4_readGate 3 (some .boolean)) ({ frames := 3, cells := 0, slots := 0, locals := 64 } : Room) (va_Pc [.ref p0] (oS G A Ω)) (va_Qi (fun (r : Int32) (Ω1 : Om) => r = (f_X4_readGate p0k_0 p0k_1 p0k_2 p0kt_0 p0kt_1 p0b_0).1 ∧ (r = 0 ∨ r = 1) ∧ inTok G Ω1 p0k p0kt ((f_X4_readGate p0k_0 p0k_1 p0k_2 p0kt_0 p0kt_1 p0b_0).2.1) ((f_X4_readGate p0k_0 p0k_1 p0k_2 p0kt_0 p0kt_1 p0b_0).2.2.1) ((f_X4_readGate p0k_0 p0k_1 p0k_2 p0kt_0 p0kt_1 p0b_0).2.2.2.1) ∧ inBlk G Ω1 p0b ((f_X4_readGate p0k_0 p0k_1 p0k_2 p0kt_0 p0kt_1 p0b_0).2.2.2.2) ∧ (∀ q : Nat, (q < p0k ∨ p0k + 1 ≤ q) → (q < p0b ∨ p0b + 13 ≤ q) → Ω1 q = Ω q)) (oB G A) A) 0 0 A := by
  refine Met.ofW (cc := cX4_readGate) (maxL := 3) (ret := (some .boolean)) (by decide) rfl ?_
  intro p e s m args below meth c s₁ B hml hv
  obtain ⟨rfl, hW, hK, hN, hZ⟩ := hv
  have hx := B.exec
  have hb := B.bytes
  have hr := B.returns
  have hts : ∀ w ∈ gt, w.before _ s = true := fun w hw => atoms_spec (ws := wz yX4_readGate cX4_readGate 3 (some .boolean)) B.pre w (List.mem_cons_of_mem _ hw)
  have hown : s.vm.findClass RX4 = some m.cls := findClass_of_methodNamed B.named
  have hlocks := B.notSynchronized
  have hA : ∀ q, A q → A q := fun _ h => h
  have hS : va_S A s.heap s.heap [] := va_S.rf
  have hS0 := hS
  have hl := lv_entry ([.ref p0]) (n := 3) (Nat.le_of_ble_eq_true rfl)
  rw [lg_entry_eq]
  generalize (lg_sl ([.ref p0]) ++ List.replicate (3 - (lg_sl ([.ref p0])).length) Slot.unset).toArray = ls at hl ⊢
  have hl : lv_has ls 3 [(0, .ref p0)] := hl
  have hE : ∀ q : Nat, (q < p0k ∨ p0k + 1 ≤ q) → (q < p0b ∨ p0b + 13 ≤ q) → Ω q = Ω q := by intros; rfl
  generalize hR : (f_X4_readGate p0k_0 p0k_1 p0k_2 p0kt_0 p0kt_1 p0b_0) = R
  rw [f_X4_readGate] at hR
  refine lv_aload_n hx hb dX4_readGate_0 rfl (lv_at hl 0 rfl) ?_
  refine o_get hx hb hts hown hK hW (inPar_o h_p0) rfl ig4 1 (by decide) fl_X4_12 rfl dX4_readGate_1 ?_
  refine o_get hx hb hts hown hK hW (inBlk_o h_p0b) rfl ig0 0 (by decide) fl_X4_66 rfl dX4_readGate_4 ?_
  try have j_2 : 0 ≤ (p0b_0 0 0).toInt ∧ (p0b_0 0 0).toInt ≤ 6 := BI_regs (by assumption)
  have j_3 : (0 : Int32).toInt = 0 := by decide
  refine lv_if_eq (tgt := 27) hx hb dX4_readGate_7 (by decide) (fun c_1 => ?_) (fun c_1 => ?_)
  · rw [if_pos c_1] at hR
    have i_1 := congrArg Int32.toInt c_1
    refine lv_iconst (v := (0 : Int32)) hx hb dX4_readGate_27 (by decide) ?_
    subst hR
    exact W.zret (v := (0 : Int32)) hx hb hr (nb01 (Or.inl rfl)) (fun t ht hW9 => ⟨⟨(0 : Int32), Ω, rfl, ⟨rfl, (Or.inl rfl), h_p0k, h_p0b, hE⟩, by rw [oB, ht]; exact hW⟩, hS.F ht⟩) hS.2.2 dX4_readGate_28
  · rw [if_neg c_1] at hR
    have i_1 := rne c_1
    refine lv_aload_n hx hb dX4_readGate_10 rfl (lv_at hl 0 rfl) ?_
    refine lv_iconst (v := (0 : Int32)) hx hb dX4_readGate_11 (by decide) ?_
    refine lv_aload_n hx hb dX4_readGate_12 rfl (lv_at hl 0 rfl) ?_
    refine o_get hx hb hts hown hK hW (inPar_o h_p0) rfl ig4 1 (by decide) fl_X4_12 rfl dX4_readGate_13 ?_
    refine o_get hx hb hts hown hK hW (inBlk_o h_p0b) rfl ig0 0 (by decide) fl_X4_66 rfl dX4_readGate_16 ?_
    refine lv_iconst (v := (1 : Int32)) hx hb dX4_readGate_19 (by decide) ?_
    refine lv_isub hx hb dX4_readGate_20 ?_
    have j_4 : (1 : Int32).toInt = 1 := by decide
    try have j_5 : ((p0b_0 0 0) - (1 : Int32)).toInt = (p0b_0 0 0).toInt - (1 : Int32).toInt := fb_subI (by omega) (by omega)
    refine o_Vi (rest := []) (As := [.int (0 : Int32), .int ((p0b_0 0 0) - (1 : Int32))]) (n := 2) hx hb hml hown hts hK hN hZ hW hS hA (c_X4_takeNumber l G A Ω p0 p0k p0kt p0b p0k_0 p0k_1 p0k_2 p0kt_0 p0kt_1 (0 : Int32) ((p0b_0 0 0) - (1 : Int32)) (by omega) (by omega) (by omega) (by omega) (by omega) (by omega) (by omega) (by omega) h_p0 h_p0k h_p0kt) (inPar_o h_p0) rfl (good_V ml_X4_69 im_X4_takeNumber se_X4_takeNumber ini_X4 co_X4_takeNumber) (by decide +kernel) ⟨Nat.zero_le _, Nat.zero_le _⟩ hl.1 (Nat.le_of_ble_eq_true rfl) rfl rfl dX4_readGate_21 (fun r Ω_6 H locs hp hW hS => ?_)
    obtain ⟨rfl, hz_6, h_p0k, hF_6⟩ := hp
    have h_p0 := h_p0.keep (fun q h1 h2 => hF_6 q (by omega))
    have h_p0kt := h_p0kt.keep (fun q h1 h2 => hF_6 q (by omega))
    have h_p0b := h_p0b.keep (fun q h1 h2 => hF_6 q (by omega))
    have hE : ∀ q : Nat, (q < p0k ∨ p0k + 1 ≤ q) → (q < p0b ∨ p0b + 13 ≤ q) → Ω_6 q = Ω q := fun q g0 g1 => (hF_6 q (by omega)).trans (hE q g0 g1)
    have qt_6 : 0 ≤ (f_X4_takeNumber p0k_1 p0kt_0 p0kt_1 (0 : Int32) ((p0b_0 0 0) - (1 : Int32))).2.1.toInt ∧ (f_X4_takeNumber p0k_1 p0kt_0 p0kt_1 (0 : Int32) ((p0b_0 0 0) - (1 : Int32))).2.1.toInt ≤ (f_X4_takeNumber p0k_1 p0kt_0 p0kt_1 (0 : Int32) ((p0b_0 0 0) - (1 : Int32))).2.2.1.toInt ∧ (f_X4_takeNumber p0k_1 p0kt_0 p0kt_1 (0 : Int32) ((p0b_0 0 0) - (1 : Int32))).2.2.1.toInt ≤ p0kt_1.toInt := (R_takeNumber hT_p0kt (by omega)).1
    have qn_6 : (f_X4_takeNumber p0k_1 p0kt_0 p0kt_1 (0 : Int32) ((p0b_0 0 0) - (1 : Int32))).1.toInt = 0 ∨ ((0 : Int32).toInt ≤ (f_X7_number (f_X4_takeNumber p0k_1 p0kt_0 p0kt_1 (0 : Int32) ((p0b_0 0 0) - (1 : Int32))).2.1 (f_X4_takeNumber p0k_1 p0kt_0 p0kt_1 (0 : Int32) ((p0b_0 0 0) - (1 : Int32))).2.2.1 (f_X4_takeNumber p0k_1 p0kt_0 p0kt_1 (0 : Int32) ((p0b_0 0 0) - (1 : Int32))).2.2.2 p0kt_0).toInt ∧ (f_X7_number (f_X4_takeNumber p0k_1 p0kt_0 p0kt_1 (0 : Int32) ((p0b_0 0 0) - (1 : Int32))).2.1 (f_X4_takeNumber p0k_1 p0kt_0 p0kt_1 (0 : Int32) ((p0b_0 0 0) - (1 : Int32))).2.2.1 (f_X4_takeNumber p0k_1 p0kt_0 p0kt_1 (0 : Int32) ((p0b_0 0 0) - (1 : Int32))).2.2.2 p0kt_0).toInt ≤ ((p0b_0 0 0) - (1 : Int32)).toInt) := (R_takeNumber hT_p0kt (by omega)).2
    generalize (f_X4_takeNumber p0k_1 p0kt_0 p0kt_1 (0 : Int32) ((p0b_0 0 0) - (1 : Int32))) = Z_6 at h_p0k hR qt_6 qn_6 hz_6 ⊢
    obtain ⟨z6_0, z6_1, z6_2, z6_3⟩ := Z_6
    dsimp only at h_p0k hR qt_6 qn_6 hz_6 ⊢
    rw [f_X4_readGate_C24] at hR
    refine lv_if_ne (tgt := 29) hx hb dX4_readGate_24 (by decide) (fun c_7 => ?_) (fun c_7 => ?_)
    · rw [if_neg c_7] at hR
      have i_7 := rne c_7
      refine lv_aload_n hx hb dX4_readGate_29 rfl (lv_at hl 0 rfl) ?_
      refine o_get hx hb hts hown hK hW (inPar_o h_p0) rfl ig4 0 (by decide) fl_X4_23 rfl dX4_readGate_30 ?_
      refine o_ViR (rest := []) (As := []) (n := 0) hx hb hml hown hts hK hN hZ hW hS hA (c_X7_number l G A Ω_6 p0k p0kt z6_1 z6_2 z6_3 p0kt_0 p0kt_1 (by omega) (by omega) h_p0k h_p0kt) (inTok_o h_p0k) rfl (good_V ml_X4_77 im_X7_number se_X7_number ini_X7 co_X7_number) (by decide +kernel) ⟨Nat.zero_le _, Nat.zero_le _⟩ hl.1 (Nat.le_of_ble_eq_true rfl) rfl rfl dX4_readGate_33 (fun r H locs hp hW hS => ?_)
      subst hp
      refine lv_istore_n (lv' := [(1, .int (f_X7_number z6_1 z6_2 z6_3 p0kt_0)), (0, .ref p0)]) hx hb dX4_readGate_36 rfl hl (by decide) rfl (fun ls hl => ?_)
      refine lv_aload_n hx hb dX4_readGate_37 rfl (lv_at hl 1 rfl) ?_
      refine o_get hx hb hts hown hK hW (inPar_o h_p0) rfl ig4 1 (by decide) fl_X4_12 rfl dX4_readGate_38 ?_
      refine o_get hx hb hts hown hK hW (inBlk_o h_p0b) rfl ig0 5 (by decide) fl_X4_83 rfl dX4_readGate_41 ?_
      refine lv_iload_n hx hb dX4_readGate_44 rfl (lv_at hl 0 rfl) ?_
      refine o_iald hx hb hK hW (inBlk_a2 h_p0b) (vp_in_iff.mpr ⟨by omega, by omega⟩) dX4_readGate_45 ?_
      refine lv_bipush (v := (-9 : Int32)) hx hb dX4_readGate_46 (by decide) ?_
      have j_10 : (-9 : Int32).toInt = -9 := by decide
      refine lv_icmp_ne (tgt := 68) hx hb dX4_readGate_48 (by decide) (fun c_9 => ?_) (fun c_9 => ?_)
      · rw [if_neg c_9] at hR
        have i_9 := rne c_9
        refine lv_iconst (v := (0 : Int32)) hx hb dX4_readGate_68 (by decide) ?_
        subst hR
        exact W.zret (v := (0 : Int32)) hx hb hr (nb01 (Or.inl rfl)) (fun t ht hW9 => ⟨⟨(0 : Int32), Ω_6, rfl, ⟨rfl, (Or.inl rfl), h_p0k, h_p0b, hE⟩, by rw [oB, ht]; exact hW⟩, hS.F ht⟩) hS.2.2 dX4_readGate_69
      · rw [if_pos c_9] at hR
        have i_9 := congrArg Int32.toInt c_9
        refine lv_aload_n hx hb dX4_readGate_51 rfl (lv_at hl 1 rfl) ?_
        refine lv_iconst (v := (0 : Int32)) hx hb dX4_readGate_52 (by decide) ?_
        refine lv_aload_n hx hb dX4_readGate_53 rfl (lv_at hl 1 rfl) ?_
        refine o_get hx hb hts hown hK hW (inPar_o h_p0) rfl ig4 1 (by decide) fl_X4_12 rfl dX4_readGate_54 ?_
        refine o_get hx hb hts hown hK hW (inBlk_o h_p0b) rfl ig0 1 (by decide) fl_X4_89 rfl dX4_readGate_57 ?_
        refine lv_iconst (v := (1 : Int32)) hx hb dX4_readGate_60 (by decide) ?_
        refine lv_isub hx hb dX4_readGate_61 ?_
        try have j_11 : 0 ≤ (p0b_0 0 1).toInt ∧ (p0b_0 0 1).toInt ≤ 12 := BI_flds (by assumption)
        try have j_12 : ((p0b_0 0 1) - (1 : Int32)).toInt = (p0b_0 0 1).toInt - (1 : Int32).toInt := fb_subI (by omega) (by omega)
        refine o_Vi (rest := []) (As := [.int (0 : Int32), .int ((p0b_0 0 1) - (1 : Int32))]) (n := 2) hx hb hml hown hts hK hN hZ hW hS hA (c_X4_takeNumber l G A Ω_6 p0 p0k p0kt p0b z6_1 z6_2 z6_3 p0kt_0 p0kt_1 (0 : Int32) ((p0b_0 0 1) - (1 : Int32)) (by omega) (by omega) (by omega) (by omega) (by omega) (by omega) (by omega) (by omega) h_p0 h_p0k h_p0kt) (inPar_o h_p0) rfl (good_V ml_X4_69 im_X4_takeNumber se_X4_takeNumber ini_X4 co_X4_takeNumber) (by decide +kernel) ⟨Nat.zero_le _, Nat.zero_le _⟩ hl.1 (Nat.le_of_ble_eq_true rfl) rfl rfl dX4_readGate_62 (fun r Ω_13 H locs hp hW hS => ?_)
        obtain ⟨rfl, hz_13, h_p0k, hF_13⟩ := hp
        have h_p0 := h_p0.keep (fun q h1 h2 => hF_13 q (by omega))
        have h_p0kt := h_p0kt.keep (fun q h1 h2 => hF_13 q (by omega))
        have h_p0b := h_p0b.keep (fun q h1 h2 => hF_13 q (by omega))
        have hE : ∀ q : Nat, (q < p0k ∨ p0k + 1 ≤ q) → (q < p0b ∨ p0b + 13 ≤ q) → Ω_13 q = Ω q := fun q g0 g1 => (hF_13 q (by omega)).trans (hE q g0 g1)
        have qt_13 : 0 ≤ (f_X4_takeNumber z6_2 p0kt_0 p0kt_1 (0 : Int32) ((p0b_0 0 1) - (1 : Int32))).2.1.toInt ∧ (f_X4_takeNumber z6_2 p0kt_0 p0kt_1 (0 : Int32) ((p0b_0 0 1) - (1 : Int32))).2.1.toInt ≤ (f_X4_takeNumber z6_2 p0kt_0 p0kt_1 (0 : Int32) ((p0b_0 0 1) - (1 : Int32))).2.2.1.toInt ∧ (f_X4_takeNumber z6_2 p0kt_0 p0kt_1 (0 : Int32) ((p0b_0 0 1) - (1 : Int32))).2.2.1.toInt ≤ p0kt_1.toInt := (R_takeNumber hT_p0kt (by omega)).1
        have qn_13 : (f_X4_takeNumber z6_2 p0kt_0 p0kt_1 (0 : Int32) ((p0b_0 0 1) - (1 : Int32))).1.toInt = 0 ∨ ((0 : Int32).toInt ≤ (f_X7_number (f_X4_takeNumber z6_2 p0kt_0 p0kt_1 (0 : Int32) ((p0b_0 0 1) - (1 : Int32))).2.1 (f_X4_takeNumber z6_2 p0kt_0 p0kt_1 (0 : Int32) ((p0b_0 0 1) - (1 : Int32))).2.2.1 (f_X4_takeNumber z6_2 p0kt_0 p0kt_1 (0 : Int32) ((p0b_0 0 1) - (1 : Int32))).2.2.2 p0kt_0).toInt ∧ (f_X7_number (f_X4_takeNumber z6_2 p0kt_0 p0kt_1 (0 : Int32) ((p0b_0 0 1) - (1 : Int32))).2.1 (f_X4_takeNumber z6_2 p0kt_0 p0kt_1 (0 : Int32) ((p0b_0 0 1) - (1 : Int32))).2.2.1 (f_X4_takeNumber z6_2 p0kt_0 p0kt_1 (0 : Int32) ((p0b_0 0 1) - (1 : Int32))).2.2.2 p0kt_0).toInt ≤ ((p0b_0 0 1) - (1 : Int32)).toInt) := (R_takeNumber hT_p0kt (by omega)).2
        generalize (f_X4_takeNumber z6_2 p0kt_0 p0kt_1 (0 : Int32) ((p0b_0 0 1) - (1 : Int32))) = Z_13 at h_p0k hR qt_13 qn_13 hz_13 ⊢
        obtain ⟨z13_0, z13_1, z13_2, z13_3⟩ := Z_13
        dsimp only at h_p0k hR qt_13 qn_13 hz_13 ⊢
        rw [f_X4_readGate_C65] at hR
        refine lv_if_ne (tgt := 70) hx hb dX4_readGate_65 (by decide) (fun c_14 => ?_) (fun c_14 => ?_)
        · rw [if_neg c_14] at hR
          have i_14 := rne c_14
          refine lv_aload_n hx hb dX4_readGate_70 rfl (lv_at hl 1 rfl) ?_
          refine o_get hx hb hts hown hK hW (inPar_o h_p0) rfl ig4 0 (by decide) fl_X4_23 rfl dX4_readGate_71 ?_
          refine o_ViR (rest := []) (As := []) (n := 0) hx hb hml hown hts hK hN hZ hW hS hA (c_X7_number l G A Ω_13 p0k p0kt z13_1 z13_2 z13_3 p0kt_0 p0kt_1 (by omega) (by omega) h_p0k h_p0kt) (inTok_o h_p0k) rfl (good_V ml_X4_77 im_X7_number se_X7_number ini_X7 co_X7_number) (by decide +kernel) ⟨Nat.zero_le _, Nat.zero_le _⟩ hl.1 (Nat.le_of_ble_eq_true rfl) rfl rfl dX4_readGate_74 (fun r H locs hp hW hS => ?_)
          subst hp
          refine lv_istore_n (lv' := [(2, .int (f_X7_number z13_1 z13_2 z13_3 p0kt_0)), (1, .int (f_X7_number z6_1 z6_2 z6_3 p0kt_0)), (0, .ref p0)]) hx hb dX4_readGate_77 rfl hl (by decide) rfl (fun ls hl => ?_)
          refine lv_aload_n hx hb dX4_readGate_78 rfl (lv_at hl 2 rfl) ?_
          refine o_get hx hb hts hown hK hW (inPar_o h_p0) rfl ig4 1 (by decide) fl_X4_12 rfl dX4_readGate_79 ?_
          refine o_get hx hb hts hown hK hW (inBlk_o h_p0b) rfl ig0 6 (by decide) fl_X4_95 rfl dX4_readGate_82 ?_
          refine lv_iload_n hx hb dX4_readGate_85 rfl (lv_at hl 0 rfl) ?_
          refine o_iald hx hb hK hW (inBlk_a3 h_p0b) (vp_in_iff.mpr ⟨by omega, by omega⟩) dX4_readGate_86 ?_
          refine lv_iload_n hx hb dX4_readGate_87 rfl (lv_at hl 1 rfl) ?_
          try have j_17 : 0 ≤ ((p0b_0 4) (f_X7_number z13_1 z13_2 z13_3 p0kt_0).toNatClampNeg).toInt ∧ ((p0b_0 4) (f_X7_number z13_1 z13_2 z13_3 p0kt_0).toNatClampNeg).toInt < 6 := BI_owner hB_p0b _
          refine lv_icmp_ne (tgt := 93) hx hb dX4_readGate_88 (by decide) (fun c_16 => ?_) (fun c_16 => ?_)
          · rw [if_neg c_16] at hR
            have i_16 := rne c_16
            refine lv_aload_n hx hb dX4_readGate_93 rfl (lv_at hl 2 rfl) ?_
            refine o_get hx hb hts hown hK hW (inPar_o h_p0) rfl ig4 1 (by decide) fl_X4_12 rfl dX4_readGate_94 ?_
            refine o_get hx hb hts hown hK hW (inBlk_o h_p0b) rfl ig0 5 (by decide) fl_X4_83 rfl dX4_readGate_97 ?_
            refine lv_iload_n hx hb dX4_readGate_100 rfl (lv_at hl 1 rfl) ?_
            refine lv_iload_n hx hb dX4_readGate_101 rfl (lv_at hl 0 rfl) ?_
            refine wBlk_2 hx hb hK hW hS hA h_p0b (vp_in_iff.mpr ⟨by omega, by omega⟩) dX4_readGate_102 (fun Ω_18 H locs h_p0b hF_18 hW hS => ?_)
            have h_p0 := h_p0.keep (fun q h1 h2 => hF_18 q (by omega))
            have h_p0k := h_p0k.keep (fun q h1 h2 => hF_18 q (by omega))
            have h_p0kt := h_p0kt.keep (fun q h1 h2 => hF_18 q (by omega))
            have hE : ∀ q : Nat, (q < p0k ∨ p0k + 1 ≤ q) → (q < p0b ∨ p0b + 13 ≤ q) → Ω_18 q = Ω q := fun q g0 g1 => (hF_18 q (by omega)).trans (hE q g0 g1)
            refine lv_aload_n hx hb dX4_readGate_103 rfl (lv_at hl 2 rfl) ?_
            refine o_Vi (rest := []) (As := []) (n := 0) hx hb hml hown hts hK hN hZ hW hS hA (c_X4_takeSemicolon l G A Ω_18 p0 p0k p0kt p0b z13_1 z13_2 z13_3 p0kt_0 p0kt_1 (by omega) (by omega) (by omega) (by omega) (by omega) (by omega) (by omega) (by omega) h_p0 h_p0k h_p0kt) (inPar_o h_p0) rfl (good_V ml_X4_86 im_X4_takeSemicolon se_X4_takeSemicolon ini_X4 co_X4_takeSemicolon) (by decide +kernel) ⟨Nat.zero_le _, Nat.zero_le _⟩ hl.1 (Nat.le_of_ble_eq_true rfl) rfl rfl dX4_readGate_104 (fun r Ω_19 H locs hp hW hS => ?_)
            obtain ⟨rfl, hz_19, h_p0k, hF_19⟩ := hp
            have h_p0 := h_p0.keep (fun q h1 h2 => hF_19 q (by omega))
            have h_p0kt := h_p0kt.keep (fun q h1 h2 => hF_19 q (by omega))
            have h_p0b := h_p0b.keep (fun q h1 h2 => hF_19 q (by omega))
            have hE : ∀ q : Nat, (q < p0k ∨ p0k + 1 ≤ q) → (q < p0b ∨ p0b + 13 ≤ q) → Ω_19 q = Ω q := fun q g0 g1 => (hF_19 q (by omega)).trans (hE q g0 g1)
            have qt_19 : 0 ≤ (f_X4_takeSemicolon z13_2 p0kt_0 p0kt_1).2.1.toInt ∧ (f_X4_takeSemicolon z13_2 p0kt_0 p0kt_1).2.1.toInt ≤ (f_X4_takeSemicolon z13_2 p0kt_0 p0kt_1).2.2.1.toInt ∧ (f_X4_takeSemicolon z13_2 p0kt_0 p0kt_1).2.2.1.toInt ≤ p0kt_1.toInt := R_takeSemicolon hT_p0kt (by omega)
            generalize (f_X4_takeSemicolon z13_2 p0kt_0 p0kt_1) = Z_19 at h_p0k hR qt_19 hz_19 ⊢
            obtain ⟨z19_0, z19_1, z19_2, z19_3⟩ := Z_19
            dsimp only at h_p0k hR qt_19 hz_19 ⊢
            rw [f_X4_readGate_C107] at hR
            subst hR
            exact W.zret (v := z19_0) hx hb hr (nb01 hz_19) (fun t ht hW9 => ⟨⟨z19_0, Ω_19, rfl, ⟨rfl, hz_19, h_p0k, h_p0b, hE⟩, by rw [oB, ht]; exact hW⟩, hS.F ht⟩) hS.2.2 dX4_readGate_107
          · rw [if_pos c_16] at hR
            have i_16 := congrArg Int32.toInt c_16
            refine lv_iconst (v := (0 : Int32)) hx hb dX4_readGate_91 (by decide) ?_
            subst hR
            exact W.zret (v := (0 : Int32)) hx hb hr (nb01 (Or.inl rfl)) (fun t ht hW9 => ⟨⟨(0 : Int32), Ω_13, rfl, ⟨rfl, (Or.inl rfl), h_p0k, h_p0b, hE⟩, by rw [oB, ht]; exact hW⟩, hS.F ht⟩) hS.2.2 dX4_readGate_92
        · rw [if_pos c_14] at hR
          have i_14 := congrArg Int32.toInt c_14
          refine lv_iconst (v := (0 : Int32)) hx hb dX4_readGate_68 (by decide) ?_
          subst hR
          exact W.zret (v := (0 : Int32)) hx hb hr (nb01 (Or.inl rfl)) (fun t ht hW9 => ⟨⟨(0 : Int32), Ω_13, rfl, ⟨rfl, (Or.inl rfl), h_p0k, h_p0b, hE⟩, by rw [oB, ht]; exact hW⟩, hS.F ht⟩) hS.2.2 dX4_readGate_69
    · rw [if_pos c_7] at hR
      have i_7 := congrArg Int32.toInt c_7
      refine lv_iconst (v := (0 : Int32)) hx hb dX4_readGate_27 (by decide) ?_
      subst hR
      exact W.zret (v := (0 : Int32)) hx hb hr (nb01 (Or.inl rfl)) (fun t ht hW9 => ⟨⟨(0 : Int32), Ω_6, rfl, ⟨rfl, (Or.inl rfl), h_p0k, h_p0b, hE⟩, by rw [oB, ht]; exact hW⟩, hS.F ht⟩) hS.2.2 dX4_readGate_28
set_option maxHeartbeats 4000000 in
set_option maxRecDepth 100000 in
theorem c_X4_readRegister (l : Launch) (G : Gm) (A : Nat → Prop) (Ω : Om) (p0 : Nat) (p0k : Nat) (p0kt : Nat) (p0b : Nat) (p0k_0 : Int32) (p0k_1 : Int32) (p0k_2 : Int32) (p0kt_0 : Fn) (p0kt_1 : Int32) (p0b_0 : Blk) (hd_p0_p0k : p0 + 1 ≤ p0k ∨ p0k + 1 ≤ p0) (hd_p0_p0kt : p0 + 1 ≤ p0kt ∨ p0kt + 2 ≤ p0) (hd_p0_p0b : p0 + 1 ≤ p0b ∨ p0b + 13 ≤ p0) (hd_p0k_p0kt : p0k + 1 ≤ p0kt ∨ p0kt + 2 ≤ p0k) (hd_p0k_p0b : p0k + 1 ≤ p0b ∨ p0b + 13 ≤ p0k) (hd_p0kt_p0b : p0kt + 2 ≤ p0b ∨ p0b + 13 ≤ p0kt) (hT_p0kt : 0 ≤ p0kt_1.toInt ∧ p0kt_1.toInt ≤ 160) (hB_p0b : BlkInv p0b_0) (hk : 0 ≤ p0k_0.toInt ∧ p0k_0.toInt ≤ p0k_1.toInt ∧ p0k_1.toInt ≤ p0kt_1.toInt) (h_p0 : inPar G Ω p0 p0k p0b) (h_p0k : inTok G Ω p0k p0kt p0k_0 p0k_1 p0k_2) (h_p0kt : inTxt G Ω p0kt p0kt_0 p0kt_1) (h_p0b : inBlk G Ω p0b p0b_0) : Met l yX4_readRegister (wz yX4_readRegister cX4_readRegister 2 (some .boolean)) ({ frames := 3, cells := 0, slots := 0, locals := 64 } : Room) (va_Pc [.ref p0] (oS G A Ω)) (va_Qi (fun (r : Int32) (Ω1 : Om) => r = (f_X4_readRegister p0k_0 p0k_1 p0k_2 p0kt_0 p0kt_1 p0b_0).1 ∧ (r = 0 ∨ r = 1) ∧ inTok G Ω1 p0k p0kt ((f_X4_readRegister p0k_0 p0k_1 p0k_2 p0kt_0 p0kt_1 p0b_0).2.1) ((f_X4_readRegister p0k_0 p0k_1 p0k_2 p0kt_0 p0kt_1 p0b_0).2.2.1) ((f_X4_readRegister p0k_0 p0k_1 p0k_2 p0kt_0 p0kt_1 p0b_0).2.2.2.1) ∧ inBlk G Ω1 p0b ((f_X4_readRegister p0k_0 p0k_1 p0k_2 p0kt_0 p0kt_1 p0b_0).2.2.2.2) ∧ (∀ q : Nat, (q < p0k ∨ p0k + 1 ≤ q) → (q < p0b ∨ p0b + 13 ≤ q) → Ω1 q = Ω q)) (oB G A) A) 0 0 A := by
  refine Met.ofW (cc := cX4_readRegister) (maxL := 2) (ret := (some .boolean)) (by decide) rfl ?_
  intro p e s m args below meth c s₁ B hml hv
  obtain ⟨rfl, hW, hK, hN, hZ⟩ := hv
  have hx := B.exec
  have hb := B.bytes
  have hr := B.returns
  have hts : ∀ w ∈ gt, w.before _ s = true := fun w hw => atoms_spec (ws := wz yX4_readRegister cX4_readRegister 2 (some .boolean)) B.pre w (List.mem_cons_of_mem _ hw)
  have hown : s.vm.findClass RX4 = some m.cls := findClass_of_methodNamed B.named
  have hlocks := B.notSynchronized
  have hA : ∀ q, A q → A q := fun _ h => h
  have hS : va_S A s.heap s.heap [] := va_S.rf
  have hS0 := hS
  have hl := lv_entry ([.ref p0]) (n := 2) (Nat.le_of_ble_eq_true rfl)
  rw [lg_entry_eq]
  generalize (lg_sl ([.ref p0]) ++ List.replicate (2 - (lg_sl ([.ref p0])).length) Slot.unset).toArray = ls at hl ⊢
  have hl : lv_has ls 2 [(0, .ref p0)] := hl
  have hE : ∀ q : Nat, (q < p0k ∨ p0k + 1 ≤ q) → (q < p0b ∨ p0b + 13 ≤ q) → Ω q = Ω q := by intros; rfl
  generalize hR : (f_X4_readRegister p0k_0 p0k_1 p0k_2 p0kt_0 p0kt_1 p0b_0) = R
  rw [f_X4_readRegister] at hR
  refine lv_aload_n hx hb dX4_readRegister_0 rfl (lv_at hl 0 rfl) ?_
  refine o_get hx hb hts hown hK hW (inPar_o h_p0) rfl ig4 1 (by decide) fl_X4_12 rfl dX4_readRegister_1 ?_
  refine o_get hx hb hts hown hK hW (inBlk_o h_p0b) rfl ig0 0 (by decide) fl_X4_66 rfl dX4_readRegister_4 ?_
  refine lv_istore_n (lv' := [(1, .int (p0b_0 0 0)), (0, .ref p0)]) hx hb dX4_readRegister_7 rfl hl (by decide) rfl (fun ls hl => ?_)
  refine lv_iload_n hx hb dX4_readRegister_8 rfl (lv_at hl 0 rfl) ?_
  refine lv_bipush (v := (6 : Int32)) hx hb dX4_readRegister_9 (by decide) ?_
  have j_2 : (6 : Int32).toInt = 6 := by decide
  try have j_3 : 0 ≤ (p0b_0 0 0).toInt ∧ (p0b_0 0 0).toInt ≤ 6 := BI_regs (by assumption)
  refine lv_icmp_ge (tgt := 24) hx hb dX4_readRegister_11 (by decide) (fun c_1 => ?_) (fun c_1 => ?_)
  · rw [if_pos c_1] at hR
    have i_1 := rle c_1
    refine lv_iconst (v := (0 : Int32)) hx hb dX4_readRegister_24 (by decide) ?_
    subst hR
    exact W.zret (v := (0 : Int32)) hx hb hr (nb01 (Or.inl rfl)) (fun t ht hW9 => ⟨⟨(0 : Int32), Ω, rfl, ⟨rfl, (Or.inl rfl), h_p0k, h_p0b, hE⟩, by rw [oB, ht]; exact hW⟩, hS.F ht⟩) hS.2.2 dX4_readRegister_25
  · rw [if_neg c_1] at hR
    have i_1 := rnle c_1
    refine lv_aload_n hx hb dX4_readRegister_14 rfl (lv_at hl 1 rfl) ?_
    refine lv_iconst (v := (0 : Int32)) hx hb dX4_readRegister_15 (by decide) ?_
    refine lv_bipush (v := (15 : Int32)) hx hb dX4_readRegister_16 (by decide) ?_
    have j_4 : (0 : Int32).toInt = 0 := by decide
    have j_5 : (15 : Int32).toInt = 15 := by decide
    refine o_Vi (rest := []) (As := [.int (0 : Int32), .int (15 : Int32)]) (n := 2) hx hb hml hown hts hK hN hZ hW hS hA (c_X4_takeNumber l G A Ω p0 p0k p0kt p0b p0k_0 p0k_1 p0k_2 p0kt_0 p0kt_1 (0 : Int32) (15 : Int32) (by omega) (by omega) (by omega) (by omega) (by omega) (by omega) (by omega) (by omega) h_p0 h_p0k h_p0kt) (inPar_o h_p0) rfl (good_V ml_X4_69 im_X4_takeNumber se_X4_takeNumber ini_X4 co_X4_takeNumber) (by decide +kernel) ⟨Nat.zero_le _, Nat.zero_le _⟩ hl.1 (Nat.le_of_ble_eq_true rfl) rfl rfl dX4_readRegister_18 (fun r Ω_6 H locs hp hW hS => ?_)
    obtain ⟨rfl, hz_6, h_p0k, hF_6⟩ := hp
    have h_p0 := h_p0.keep (fun q h1 h2 => hF_6 q (by omega))
    have h_p0kt := h_p0kt.keep (fun q h1 h2 => hF_6 q (by omega))
    have h_p0b := h_p0b.keep (fun q h1 h2 => hF_6 q (by omega))
    have hE : ∀ q : Nat, (q < p0k ∨ p0k + 1 ≤ q) → (q < p0b ∨ p0b + 13 ≤ q) → Ω_6 q = Ω q := fun q g0 g1 => (hF_6 q (by omega)).trans (hE q g0 g1)
    have qt_6 : 0 ≤ (f_X4_takeNumber p0k_1 p0kt_0 p0kt_1 (0 : Int32) (15 : Int32)).2.1.toInt ∧ (f_X4_takeNumber p0k_1 p0kt_0 p0kt_1 (0 : Int32) (15 : Int32)).2.1.toInt ≤ (f_X4_takeNumber p0k_1 p0kt_0 p0kt_1 (0 : Int32) (15 : Int32)).2.2.1.toInt ∧ (f_X4_takeNumber p0k_1 p0kt_0 p0kt_1 (0 : Int32) (15 : Int32)).2.2.1.toInt ≤ p0kt_1.toInt := (R_takeNumber hT_p0kt (by omega)).1
    have qn_6 : (f_X4_takeNumber p0k_1 p0kt_0 p0kt_1 (0 : Int32) (15 : Int32)).1.toInt = 0 ∨ ((0 : Int32).toInt ≤ (f_X7_number (f_X4_takeNumber p0k_1 p0kt_0 p0kt_1 (0 : Int32) (15 : Int32)).2.1 (f_X4_takeNumber p0k_1 p0kt_0 p0kt_1 (0 : Int32) (15 : Int32)).2.2.1 (f_X4_takeNumber p0k_1 p0kt_0 p0kt_1 (0 : Int32) (15 : Int32)).2.2.2 p0kt_0).toInt ∧ (f_X7_number (f_X4_takeNumber p0k_1 p0kt_0 p0kt_1 (0 : Int32) (15 : Int32)).2.1 (f_X4_takeNumber p0k_1 p0kt_0 p0kt_1 (0 : Int32) (15 : Int32)).2.2.1 (f_X4_takeNumber p0k_1 p0kt_0 p0kt_1 (0 : Int32) (15 : Int32)).2.2.2 p0kt_0).toInt ≤ (15 : Int32).toInt) := (R_takeNumber hT_p0kt (by omega)).2
    generalize (f_X4_takeNumber p0k_1 p0kt_0 p0kt_1 (0 : Int32) (15 : Int32)) = Z_6 at h_p0k hR qt_6 qn_6 hz_6 ⊢
    obtain ⟨z6_0, z6_1, z6_2, z6_3⟩ := Z_6
    dsimp only at h_p0k hR qt_6 qn_6 hz_6 ⊢
    rw [f_X4_readRegister_C21] at hR
    refine lv_if_ne (tgt := 26) hx hb dX4_readRegister_21 (by decide) (fun c_7 => ?_) (fun c_7 => ?_)
    · rw [if_neg c_7] at hR
      have i_7 := rne c_7
      refine lv_aload_n hx hb dX4_readRegister_26 rfl (lv_at hl 1 rfl) ?_
      refine o_get hx hb hts hown hK hW (inPar_o h_p0) rfl ig4 1 (by decide) fl_X4_12 rfl dX4_readRegister_27 ?_
      refine o_get hx hb hts hown hK hW (inBlk_o h_p0b) rfl ig0 3 (by decide) fl_X4_73 rfl dX4_readRegister_30 ?_
      refine lv_iload_n hx hb dX4_readRegister_33 rfl (lv_at hl 0 rfl) ?_
      refine lv_aload_n hx hb dX4_readRegister_34 rfl (lv_at hl 1 rfl) ?_
      refine o_get hx hb hts hown hK hW (inPar_o h_p0) rfl ig4 0 (by decide) fl_X4_23 rfl dX4_readRegister_35 ?_
      refine o_ViR (rest := [.int (p0b_0 0 0), .ref (p0b + 1)]) (As := []) (n := 0) hx hb hml hown hts hK hN hZ hW hS hA (c_X7_number l G A Ω_6 p0k p0kt z6_1 z6_2 z6_3 p0kt_0 p0kt_1 (by omega) (by omega) h_p0k h_p0kt) (inTok_o h_p0k) rfl (good_V ml_X4_77 im_X7_number se_X7_number ini_X7 co_X7_number) (by decide +kernel) ⟨Nat.zero_le _, Nat.zero_le _⟩ hl.1 (Nat.le_of_ble_eq_true rfl) rfl rfl dX4_readRegister_38 (fun r H locs hp hW hS => ?_)
      subst hp
      refine wBlk_0 hx hb hK hW hS hA h_p0b (vp_in_iff.mpr ⟨by omega, by omega⟩) dX4_readRegister_41 (fun Ω_9 H locs h_p0b hF_9 hW hS => ?_)
      have h_p0 := h_p0.keep (fun q h1 h2 => hF_9 q (by omega))
      have h_p0k := h_p0k.keep (fun q h1 h2 => hF_9 q (by omega))
      have h_p0kt := h_p0kt.keep (fun q h1 h2 => hF_9 q (by omega))
      have hE : ∀ q : Nat, (q < p0k ∨ p0k + 1 ≤ q) → (q < p0b ∨ p0b + 13 ≤ q) → Ω_9 q = Ω q := fun q g0 g1 => (hF_9 q (by omega)).trans (hE q g0 g1)
      refine lv_aload_n hx hb dX4_readRegister_42 rfl (lv_at hl 1 rfl) ?_
      refine o_get hx hb hts hown hK hW (inPar_o h_p0) rfl ig4 1 (by decide) fl_X4_12 rfl dX4_readRegister_43 ?_
      refine o_get hx hb hts hown hK hW (inBlk_o h_p0b) rfl ig0 4 (by decide) fl_X4_80 rfl dX4_readRegister_46 ?_
      refine lv_iload_n hx hb dX4_readRegister_49 rfl (lv_at hl 0 rfl) ?_
      refine lv_bipush (v := (-9 : Int32)) hx hb dX4_readRegister_50 (by decide) ?_
      refine wBlk_1 hx hb hK hW hS hA h_p0b (vp_in_iff.mpr ⟨by omega, by omega⟩) dX4_readRegister_52 (fun Ω_10 H locs h_p0b hF_10 hW hS => ?_)
      have h_p0 := h_p0.keep (fun q h1 h2 => hF_10 q (by omega))
      have h_p0k := h_p0k.keep (fun q h1 h2 => hF_10 q (by omega))
      have h_p0kt := h_p0kt.keep (fun q h1 h2 => hF_10 q (by omega))
      have hE : ∀ q : Nat, (q < p0k ∨ p0k + 1 ≤ q) → (q < p0b ∨ p0b + 13 ≤ q) → Ω_10 q = Ω q := fun q g0 g1 => (hF_10 q (by omega)).trans (hE q g0 g1)
      refine lv_aload_n hx hb dX4_readRegister_53 rfl (lv_at hl 1 rfl) ?_
      refine o_get hx hb hts hown hK hW (inPar_o h_p0) rfl ig4 1 (by decide) fl_X4_12 rfl dX4_readRegister_54 ?_
      refine o_get hx hb hts hown hK hW (inBlk_o h_p0b) rfl ig0 5 (by decide) fl_X4_83 rfl dX4_readRegister_57 ?_
      refine lv_iload_n hx hb dX4_readRegister_60 rfl (lv_at hl 0 rfl) ?_
      refine lv_bipush (v := (-9 : Int32)) hx hb dX4_readRegister_61 (by decide) ?_
      refine wBlk_2 hx hb hK hW hS hA h_p0b (vp_in_iff.mpr ⟨by omega, by omega⟩) dX4_readRegister_63 (fun Ω_11 H locs h_p0b hF_11 hW hS => ?_)
      have h_p0 := h_p0.keep (fun q h1 h2 => hF_11 q (by omega))
      have h_p0k := h_p0k.keep (fun q h1 h2 => hF_11 q (by omega))
      have h_p0kt := h_p0kt.keep (fun q h1 h2 => hF_11 q (by omega))
      have hE : ∀ q : Nat, (q < p0k ∨ p0k + 1 ≤ q) → (q < p0b ∨ p0b + 13 ≤ q) → Ω_11 q = Ω q := fun q g0 g1 => (hF_11 q (by omega)).trans (hE q g0 g1)
      refine lv_aload_n hx hb dX4_readRegister_64 rfl (lv_at hl 1 rfl) ?_
      refine o_get hx hb hts hown hK hW (inPar_o h_p0) rfl ig4 1 (by decide) fl_X4_12 rfl dX4_readRegister_65 ?_
      refine lv_dup hx hb dX4_readRegister_68 rfl ?_
      refine o_get hx hb hts hown hK hW (inBlk_o h_p0b) rfl ig0 0 (by decide) fl_X4_66 rfl dX4_readRegister_69 ?_
      refine lv_iconst (v := (1 : Int32)) hx hb dX4_readRegister_72 (by decide) ?_
      refine lv_iadd hx hb dX4_readRegister_73 ?_
      refine vBlk_0 hx hb hts hown hK hW hS hA h_p0b fl_X4_66 dX4_readRegister_74 (fun Ω_12 H locs h_p0b hF_12 hW hS => ?_)
      have h_p0 := h_p0.keep (fun q h1 h2 => hF_12 q (by omega))
      have h_p0k := h_p0k.keep (fun q h1 h2 => hF_12 q (by omega))
      have h_p0kt := h_p0kt.keep (fun q h1 h2 => hF_12 q (by omega))
      have hE : ∀ q : Nat, (q < p0k ∨ p0k + 1 ≤ q) → (q < p0b ∨ p0b + 13 ≤ q) → Ω_12 q = Ω q := fun q g0 g1 => (hF_12 q (by omega)).trans (hE q g0 g1)
      refine lv_aload_n hx hb dX4_readRegister_77 rfl (lv_at hl 1 rfl) ?_
      refine o_Vi (rest := []) (As := []) (n := 0) hx hb hml hown hts hK hN hZ hW hS hA (c_X4_takeSemicolon l G A Ω_12 p0 p0k p0kt p0b z6_1 z6_2 z6_3 p0kt_0 p0kt_1 (by omega) (by omega) (by omega) (by omega) (by omega) (by omega) (by omega) (by omega) h_p0 h_p0k h_p0kt) (inPar_o h_p0) rfl (good_V ml_X4_86 im_X4_takeSemicolon se_X4_takeSemicolon ini_X4 co_X4_takeSemicolon) (by decide +kernel) ⟨Nat.zero_le _, Nat.zero_le _⟩ hl.1 (Nat.le_of_ble_eq_true rfl) rfl rfl dX4_readRegister_78 (fun r Ω_13 H locs hp hW hS => ?_)
      obtain ⟨rfl, hz_13, h_p0k, hF_13⟩ := hp
      have h_p0 := h_p0.keep (fun q h1 h2 => hF_13 q (by omega))
      have h_p0kt := h_p0kt.keep (fun q h1 h2 => hF_13 q (by omega))
      have h_p0b := h_p0b.keep (fun q h1 h2 => hF_13 q (by omega))
      have hE : ∀ q : Nat, (q < p0k ∨ p0k + 1 ≤ q) → (q < p0b ∨ p0b + 13 ≤ q) → Ω_13 q = Ω q := fun q g0 g1 => (hF_13 q (by omega)).trans (hE q g0 g1)
      have qt_13 : 0 ≤ (f_X4_takeSemicolon z6_2 p0kt_0 p0kt_1).2.1.toInt ∧ (f_X4_takeSemicolon z6_2 p0kt_0 p0kt_1).2.1.toInt ≤ (f_X4_takeSemicolon z6_2 p0kt_0 p0kt_1).2.2.1.toInt ∧ (f_X4_takeSemicolon z6_2 p0kt_0 p0kt_1).2.2.1.toInt ≤ p0kt_1.toInt := R_takeSemicolon hT_p0kt (by omega)
      generalize (f_X4_takeSemicolon z6_2 p0kt_0 p0kt_1) = Z_13 at h_p0k hR qt_13 hz_13 ⊢
      obtain ⟨z13_0, z13_1, z13_2, z13_3⟩ := Z_13
      dsimp only at h_p0k hR qt_13 hz_13 ⊢
      rw [f_X4_readRegister_C81] at hR
      subst hR
      exact W.zret (v := z13_0) hx hb hr (nb01 hz_13) (fun t ht hW9 => ⟨⟨z13_0, Ω_13, rfl, ⟨rfl, hz_13, h_p0k, h_p0b, hE⟩, by rw [oB, ht]; exact hW⟩, hS.F ht⟩) hS.2.2 dX4_readRegister_81
    · rw [if_pos c_7] at hR
      have i_7 := congrArg Int32.toInt c_7
      refine lv_iconst (v := (0 : Int32)) hx hb dX4_readRegister_24 (by decide) ?_
      subst hR
      exact W.zret (v := (0 : Int32)) hx hb hr (nb01 (Or.inl rfl)) (fun t ht hW9 => ⟨⟨(0 : Int32), Ω_6, rfl, ⟨rfl, (Or.inl rfl), h_p0k, h_p0b, hE⟩, by rw [oB, ht]; exact hW⟩, hS.F ht⟩) hS.2.2 dX4_readRegister_25
set_option maxHeartbeats 4000000 in
set_option maxRecDepth 100000 in
theorem c_X4_readLock (l : Launch) (G : Gm) (A : Nat → Prop) (Ω : Om) (p0 : Nat) (p0k : Nat) (p0kt : Nat) (p0b : Nat) (p0k_0 : Int32) (p0k_1 : Int32) (p0k_2 : Int32) (p0kt_0 : Fn) (p0kt_1 : Int32) (p0b_0 : Blk) (hd_p0_p0k : p0 + 1 ≤ p0k ∨ p0k + 1 ≤ p0) (hd_p0_p0kt : p0 + 1 ≤ p0kt ∨ p0kt + 2 ≤ p0) (hd_p0_p0b : p0 + 1 ≤ p0b ∨ p0b + 13 ≤ p0) (hd_p0k_p0kt : p0k + 1 ≤ p0kt ∨ p0kt + 2 ≤ p0k) (hd_p0k_p0b : p0k + 1 ≤ p0b ∨ p0b + 13 ≤ p0k) (hd_p0kt_p0b : p0kt + 2 ≤ p0b ∨ p0b + 13 ≤ p0kt) (hT_p0kt : 0 ≤ p0kt_1.toInt ∧ p0kt_1.toInt ≤ 160) (hB_p0b : BlkInv p0b_0) (hk : 0 ≤ p0k_0.toInt ∧ p0k_0.toInt ≤ p0k_1.toInt ∧ p0k_1.toInt ≤ p0kt_1.toInt) (h_p0 : inPar G Ω p0 p0k p0b) (h_p0k : inTok G Ω p0k p0kt p0k_0 p0k_1 p0k_2) (h_p0kt : inTxt G Ω p0kt p0kt_0 p0kt_1) (h_p0b : inBlk G Ω p0b p0b_0) : Met l yX4_readLock (wz yX4_readLock cX4_readLock 2 (some .boolean)) ({ frames := 3, cells := 0, slots := 0, locals := 64 } : Room) (va_Pc [.ref p0] (oS G A Ω)) (va_Qi (fun (r : Int32) (Ω1 : Om) => r = (f_X4_readLock p0k_0 p0k_1 p0k_2 p0kt_0 p0kt_1 p0b_0).1 ∧ (r = 0 ∨ r = 1) ∧ inTok G Ω1 p0k p0kt ((f_X4_readLock p0k_0 p0k_1 p0k_2 p0kt_0 p0kt_1 p0b_0).2.1) ((f_X4_readLock p0k_0 p0k_1 p0k_2 p0kt_0 p0kt_1 p0b_0).2.2.1) ((f_X4_readLock p0k_0 p0k_1 p0k_2 p0kt_0 p0kt_1 p0b_0).2.2.2.1) ∧ inBlk G Ω1 p0b ((f_X4_readLock p0k_0 p0k_1 p0k_2 p0kt_0 p0kt_1 p0b_0).2.2.2.2) ∧ (∀ q : Nat, (q < p0k ∨ p0k + 1 ≤ q) → (q < p0b ∨ p0b + 13 ≤ q) → Ω1 q = Ω q)) (oB G A) A) 0 0 A := by
  refine Met.ofW (cc := cX4_readLock) (maxL := 2) (ret := (some .boolean)) (by decide) rfl ?_
  intro p e s m args below meth c s₁ B hml hv
  obtain ⟨rfl, hW, hK, hN, hZ⟩ := hv
  have hx := B.exec
  have hb := B.bytes
  have hr := B.returns
  have hts : ∀ w ∈ gt, w.before _ s = true := fun w hw => atoms_spec (ws := wz yX4_readLock cX4_readLock 2 (some .boolean)) B.pre w (List.mem_cons_of_mem _ hw)
  have hown : s.vm.findClass RX4 = some m.cls := findClass_of_methodNamed B.named
  have hlocks := B.notSynchronized
  have hA : ∀ q, A q → A q := fun _ h => h
  have hS : va_S A s.heap s.heap [] := va_S.rf
  have hS0 := hS
  have hl := lv_entry ([.ref p0]) (n := 2) (Nat.le_of_ble_eq_true rfl)
  rw [lg_entry_eq]
  generalize (lg_sl ([.ref p0]) ++ List.replicate (2 - (lg_sl ([.ref p0])).length) Slot.unset).toArray = ls at hl ⊢
  have hl : lv_has ls 2 [(0, .ref p0)] := hl
  have hE : ∀ q : Nat, (q < p0k ∨ p0k + 1 ≤ q) → (q < p0b ∨ p0b + 13 ≤ q) → Ω q = Ω q := by intros; rfl
  generalize hR : (f_X4_readLock p0k_0 p0k_1 p0k_2 p0kt_0 p0kt_1 p0b_0) = R
  rw [f_X4_readLock] at hR
  refine lv_aload_n hx hb dX4_readLock_0 rfl (lv_at hl 0 rfl) ?_
  refine o_get hx hb hts hown hK hW (inPar_o h_p0) rfl ig4 1 (by decide) fl_X4_12 rfl dX4_readLock_1 ?_
  refine o_get hx hb hts hown hK hW (inBlk_o h_p0b) rfl ig0 0 (by decide) fl_X4_66 rfl dX4_readLock_4 ?_
  try have j_2 : 0 ≤ (p0b_0 0 0).toInt ∧ (p0b_0 0 0).toInt ≤ 6 := BI_regs (by assumption)
  have j_3 : (0 : Int32).toInt = 0 := by decide
  refine lv_if_eq (tgt := 27) hx hb dX4_readLock_7 (by decide) (fun c_1 => ?_) (fun c_1 => ?_)
  · rw [if_pos c_1] at hR
    have i_1 := congrArg Int32.toInt c_1
    refine lv_iconst (v := (0 : Int32)) hx hb dX4_readLock_27 (by decide) ?_
    subst hR
    exact W.zret (v := (0 : Int32)) hx hb hr (nb01 (Or.inl rfl)) (fun t ht hW9 => ⟨⟨(0 : Int32), Ω, rfl, ⟨rfl, (Or.inl rfl), h_p0k, h_p0b, hE⟩, by rw [oB, ht]; exact hW⟩, hS.F ht⟩) hS.2.2 dX4_readLock_28
  · rw [if_neg c_1] at hR
    have i_1 := rne c_1
    refine lv_aload_n hx hb dX4_readLock_10 rfl (lv_at hl 0 rfl) ?_
    refine lv_iconst (v := (0 : Int32)) hx hb dX4_readLock_11 (by decide) ?_
    refine lv_aload_n hx hb dX4_readLock_12 rfl (lv_at hl 0 rfl) ?_
    refine o_get hx hb hts hown hK hW (inPar_o h_p0) rfl ig4 1 (by decide) fl_X4_12 rfl dX4_readLock_13 ?_
    refine o_get hx hb hts hown hK hW (inBlk_o h_p0b) rfl ig0 0 (by decide) fl_X4_66 rfl dX4_readLock_16 ?_
    refine lv_iconst (v := (1 : Int32)) hx hb dX4_readLock_19 (by decide) ?_
    refine lv_isub hx hb dX4_readLock_20 ?_
    have j_4 : (1 : Int32).toInt = 1 := by decide
    try have j_5 : ((p0b_0 0 0) - (1 : Int32)).toInt = (p0b_0 0 0).toInt - (1 : Int32).toInt := fb_subI (by omega) (by omega)
    refine o_Vi (rest := []) (As := [.int (0 : Int32), .int ((p0b_0 0 0) - (1 : Int32))]) (n := 2) hx hb hml hown hts hK hN hZ hW hS hA (c_X4_takeNumber l G A Ω p0 p0k p0kt p0b p0k_0 p0k_1 p0k_2 p0kt_0 p0kt_1 (0 : Int32) ((p0b_0 0 0) - (1 : Int32)) (by omega) (by omega) (by omega) (by omega) (by omega) (by omega) (by omega) (by omega) h_p0 h_p0k h_p0kt) (inPar_o h_p0) rfl (good_V ml_X4_69 im_X4_takeNumber se_X4_takeNumber ini_X4 co_X4_takeNumber) (by decide +kernel) ⟨Nat.zero_le _, Nat.zero_le _⟩ hl.1 (Nat.le_of_ble_eq_true rfl) rfl rfl dX4_readLock_21 (fun r Ω_6 H locs hp hW hS => ?_)
    obtain ⟨rfl, hz_6, h_p0k, hF_6⟩ := hp
    have h_p0 := h_p0.keep (fun q h1 h2 => hF_6 q (by omega))
    have h_p0kt := h_p0kt.keep (fun q h1 h2 => hF_6 q (by omega))
    have h_p0b := h_p0b.keep (fun q h1 h2 => hF_6 q (by omega))
    have hE : ∀ q : Nat, (q < p0k ∨ p0k + 1 ≤ q) → (q < p0b ∨ p0b + 13 ≤ q) → Ω_6 q = Ω q := fun q g0 g1 => (hF_6 q (by omega)).trans (hE q g0 g1)
    have qt_6 : 0 ≤ (f_X4_takeNumber p0k_1 p0kt_0 p0kt_1 (0 : Int32) ((p0b_0 0 0) - (1 : Int32))).2.1.toInt ∧ (f_X4_takeNumber p0k_1 p0kt_0 p0kt_1 (0 : Int32) ((p0b_0 0 0) - (1 : Int32))).2.1.toInt ≤ (f_X4_takeNumber p0k_1 p0kt_0 p0kt_1 (0 : Int32) ((p0b_0 0 0) - (1 : Int32))).2.2.1.toInt ∧ (f_X4_takeNumber p0k_1 p0kt_0 p0kt_1 (0 : Int32) ((p0b_0 0 0) - (1 : Int32))).2.2.1.toInt ≤ p0kt_1.toInt := (R_takeNumber hT_p0kt (by omega)).1
    have qn_6 : (f_X4_takeNumber p0k_1 p0kt_0 p0kt_1 (0 : Int32) ((p0b_0 0 0) - (1 : Int32))).1.toInt = 0 ∨ ((0 : Int32).toInt ≤ (f_X7_number (f_X4_takeNumber p0k_1 p0kt_0 p0kt_1 (0 : Int32) ((p0b_0 0 0) - (1 : Int32))).2.1 (f_X4_takeNumber p0k_1 p0kt_0 p0kt_1 (0 : Int32) ((p0b_0 0 0) - (1 : Int32))).2.2.1 (f_X4_takeNumber p0k_1 p0kt_0 p0kt_1 (0 : Int32) ((p0b_0 0 0) - (1 : Int32))).2.2.2 p0kt_0).toInt ∧ (f_X7_number (f_X4_takeNumber p0k_1 p0kt_0 p0kt_1 (0 : Int32) ((p0b_0 0 0) - (1 : Int32))).2.1 (f_X4_takeNumber p0k_1 p0kt_0 p0kt_1 (0 : Int32) ((p0b_0 0 0) - (1 : Int32))).2.2.1 (f_X4_takeNumber p0k_1 p0kt_0 p0kt_1 (0 : Int32) ((p0b_0 0 0) - (1 : Int32))).2.2.2 p0kt_0).toInt ≤ ((p0b_0 0 0) - (1 : Int32)).toInt) := (R_takeNumber hT_p0kt (by omega)).2
    generalize (f_X4_takeNumber p0k_1 p0kt_0 p0kt_1 (0 : Int32) ((p0b_0 0 0) - (1 : Int32))) = Z_6 at h_p0k hR qt_6 qn_6 hz_6 ⊢
    obtain ⟨z6_0, z6_1, z6_2, z6_3⟩ := Z_6
    dsimp only at h_p0k hR qt_6 qn_6 hz_6 ⊢
    rw [f_X4_readLock_C24] at hR
    refine lv_if_ne (tgt := 29) hx hb dX4_readLock_24 (by decide) (fun c_7 => ?_) (fun c_7 => ?_)
    · rw [if_neg c_7] at hR
      have i_7 := rne c_7
      refine lv_aload_n hx hb dX4_readLock_29 rfl (lv_at hl 0 rfl) ?_
      refine o_get hx hb hts hown hK hW (inPar_o h_p0) rfl ig4 0 (by decide) fl_X4_23 rfl dX4_readLock_30 ?_
      refine o_ViR (rest := []) (As := []) (n := 0) hx hb hml hown hts hK hN hZ hW hS hA (c_X7_number l G A Ω_6 p0k p0kt z6_1 z6_2 z6_3 p0kt_0 p0kt_1 (by omega) (by omega) h_p0k h_p0kt) (inTok_o h_p0k) rfl (good_V ml_X4_77 im_X7_number se_X7_number ini_X7 co_X7_number) (by decide +kernel) ⟨Nat.zero_le _, Nat.zero_le _⟩ hl.1 (Nat.le_of_ble_eq_true rfl) rfl rfl dX4_readLock_33 (fun r H locs hp hW hS => ?_)
      subst hp
      refine lv_istore_n (lv' := [(1, .int (f_X7_number z6_1 z6_2 z6_3 p0kt_0)), (0, .ref p0)]) hx hb dX4_readLock_36 rfl hl (by decide) rfl (fun ls hl => ?_)
      refine lv_aload_n hx hb dX4_readLock_37 rfl (lv_at hl 1 rfl) ?_
      refine o_get hx hb hts hown hK hW (inPar_o h_p0) rfl ig4 1 (by decide) fl_X4_12 rfl dX4_readLock_38 ?_
      refine o_get hx hb hts hown hK hW (inBlk_o h_p0b) rfl ig0 4 (by decide) fl_X4_80 rfl dX4_readLock_41 ?_
      refine lv_iload_n hx hb dX4_readLock_44 rfl (lv_at hl 0 rfl) ?_
      refine o_iald hx hb hK hW (inBlk_a1 h_p0b) (vp_in_iff.mpr ⟨by omega, by omega⟩) dX4_readLock_45 ?_
      refine lv_bipush (v := (-9 : Int32)) hx hb dX4_readLock_46 (by decide) ?_
      have j_10 : (-9 : Int32).toInt = -9 := by decide
      refine lv_icmp_ne (tgt := 68) hx hb dX4_readLock_48 (by decide) (fun c_9 => ?_) (fun c_9 => ?_)
      · rw [if_neg c_9] at hR
        have i_9 := rne c_9
        refine lv_iconst (v := (0 : Int32)) hx hb dX4_readLock_68 (by decide) ?_
        subst hR
        exact W.zret (v := (0 : Int32)) hx hb hr (nb01 (Or.inl rfl)) (fun t ht hW9 => ⟨⟨(0 : Int32), Ω_6, rfl, ⟨rfl, (Or.inl rfl), h_p0k, h_p0b, hE⟩, by rw [oB, ht]; exact hW⟩, hS.F ht⟩) hS.2.2 dX4_readLock_69
      · rw [if_pos c_9] at hR
        have i_9 := congrArg Int32.toInt c_9
        refine lv_aload_n hx hb dX4_readLock_51 rfl (lv_at hl 1 rfl) ?_
        refine lv_iconst (v := (0 : Int32)) hx hb dX4_readLock_52 (by decide) ?_
        refine lv_aload_n hx hb dX4_readLock_53 rfl (lv_at hl 1 rfl) ?_
        refine o_get hx hb hts hown hK hW (inPar_o h_p0) rfl ig4 1 (by decide) fl_X4_12 rfl dX4_readLock_54 ?_
        refine o_get hx hb hts hown hK hW (inBlk_o h_p0b) rfl ig0 1 (by decide) fl_X4_89 rfl dX4_readLock_57 ?_
        refine lv_iconst (v := (1 : Int32)) hx hb dX4_readLock_60 (by decide) ?_
        refine lv_isub hx hb dX4_readLock_61 ?_
        try have j_11 : 0 ≤ (p0b_0 0 1).toInt ∧ (p0b_0 0 1).toInt ≤ 12 := BI_flds (by assumption)
        try have j_12 : ((p0b_0 0 1) - (1 : Int32)).toInt = (p0b_0 0 1).toInt - (1 : Int32).toInt := fb_subI (by omega) (by omega)
        refine o_Vi (rest := []) (As := [.int (0 : Int32), .int ((p0b_0 0 1) - (1 : Int32))]) (n := 2) hx hb hml hown hts hK hN hZ hW hS hA (c_X4_takeNumber l G A Ω_6 p0 p0k p0kt p0b z6_1 z6_2 z6_3 p0kt_0 p0kt_1 (0 : Int32) ((p0b_0 0 1) - (1 : Int32)) (by omega) (by omega) (by omega) (by omega) (by omega) (by omega) (by omega) (by omega) h_p0 h_p0k h_p0kt) (inPar_o h_p0) rfl (good_V ml_X4_69 im_X4_takeNumber se_X4_takeNumber ini_X4 co_X4_takeNumber) (by decide +kernel) ⟨Nat.zero_le _, Nat.zero_le _⟩ hl.1 (Nat.le_of_ble_eq_true rfl) rfl rfl dX4_readLock_62 (fun r Ω_13 H locs hp hW hS => ?_)
        obtain ⟨rfl, hz_13, h_p0k, hF_13⟩ := hp
        have h_p0 := h_p0.keep (fun q h1 h2 => hF_13 q (by omega))
        have h_p0kt := h_p0kt.keep (fun q h1 h2 => hF_13 q (by omega))
        have h_p0b := h_p0b.keep (fun q h1 h2 => hF_13 q (by omega))
        have hE : ∀ q : Nat, (q < p0k ∨ p0k + 1 ≤ q) → (q < p0b ∨ p0b + 13 ≤ q) → Ω_13 q = Ω q := fun q g0 g1 => (hF_13 q (by omega)).trans (hE q g0 g1)
        have qt_13 : 0 ≤ (f_X4_takeNumber z6_2 p0kt_0 p0kt_1 (0 : Int32) ((p0b_0 0 1) - (1 : Int32))).2.1.toInt ∧ (f_X4_takeNumber z6_2 p0kt_0 p0kt_1 (0 : Int32) ((p0b_0 0 1) - (1 : Int32))).2.1.toInt ≤ (f_X4_takeNumber z6_2 p0kt_0 p0kt_1 (0 : Int32) ((p0b_0 0 1) - (1 : Int32))).2.2.1.toInt ∧ (f_X4_takeNumber z6_2 p0kt_0 p0kt_1 (0 : Int32) ((p0b_0 0 1) - (1 : Int32))).2.2.1.toInt ≤ p0kt_1.toInt := (R_takeNumber hT_p0kt (by omega)).1
        have qn_13 : (f_X4_takeNumber z6_2 p0kt_0 p0kt_1 (0 : Int32) ((p0b_0 0 1) - (1 : Int32))).1.toInt = 0 ∨ ((0 : Int32).toInt ≤ (f_X7_number (f_X4_takeNumber z6_2 p0kt_0 p0kt_1 (0 : Int32) ((p0b_0 0 1) - (1 : Int32))).2.1 (f_X4_takeNumber z6_2 p0kt_0 p0kt_1 (0 : Int32) ((p0b_0 0 1) - (1 : Int32))).2.2.1 (f_X4_takeNumber z6_2 p0kt_0 p0kt_1 (0 : Int32) ((p0b_0 0 1) - (1 : Int32))).2.2.2 p0kt_0).toInt ∧ (f_X7_number (f_X4_takeNumber z6_2 p0kt_0 p0kt_1 (0 : Int32) ((p0b_0 0 1) - (1 : Int32))).2.1 (f_X4_takeNumber z6_2 p0kt_0 p0kt_1 (0 : Int32) ((p0b_0 0 1) - (1 : Int32))).2.2.1 (f_X4_takeNumber z6_2 p0kt_0 p0kt_1 (0 : Int32) ((p0b_0 0 1) - (1 : Int32))).2.2.2 p0kt_0).toInt ≤ ((p0b_0 0 1) - (1 : Int32)).toInt) := (R_takeNumber hT_p0kt (by omega)).2
        generalize (f_X4_takeNumber z6_2 p0kt_0 p0kt_1 (0 : Int32) ((p0b_0 0 1) - (1 : Int32))) = Z_13 at h_p0k hR qt_13 qn_13 hz_13 ⊢
        obtain ⟨z13_0, z13_1, z13_2, z13_3⟩ := Z_13
        dsimp only at h_p0k hR qt_13 qn_13 hz_13 ⊢
        rw [f_X4_readLock_C65] at hR
        refine lv_if_ne (tgt := 70) hx hb dX4_readLock_65 (by decide) (fun c_14 => ?_) (fun c_14 => ?_)
        · rw [if_neg c_14] at hR
          have i_14 := rne c_14
          refine lv_aload_n hx hb dX4_readLock_70 rfl (lv_at hl 1 rfl) ?_
          refine o_get hx hb hts hown hK hW (inPar_o h_p0) rfl ig4 1 (by decide) fl_X4_12 rfl dX4_readLock_71 ?_
          refine o_get hx hb hts hown hK hW (inBlk_o h_p0b) rfl ig0 4 (by decide) fl_X4_80 rfl dX4_readLock_74 ?_
          refine lv_iload_n hx hb dX4_readLock_77 rfl (lv_at hl 0 rfl) ?_
          refine lv_aload_n hx hb dX4_readLock_78 rfl (lv_at hl 1 rfl) ?_
          refine o_get hx hb hts hown hK hW (inPar_o h_p0) rfl ig4 0 (by decide) fl_X4_23 rfl dX4_readLock_79 ?_
          refine o_ViR (rest := [.int (f_X7_number z6_1 z6_2 z6_3 p0kt_0), .ref (p0b + 2)]) (As := []) (n := 0) hx hb hml hown hts hK hN hZ hW hS hA (c_X7_number l G A Ω_13 p0k p0kt z13_1 z13_2 z13_3 p0kt_0 p0kt_1 (by omega) (by omega) h_p0k h_p0kt) (inTok_o h_p0k) rfl (good_V ml_X4_77 im_X7_number se_X7_number ini_X7 co_X7_number) (by decide +kernel) ⟨Nat.zero_le _, Nat.zero_le _⟩ hl.1 (Nat.le_of_ble_eq_true rfl) rfl rfl dX4_readLock_82 (fun r H locs hp hW hS => ?_)
          subst hp
          refine wBlk_1 hx hb hK hW hS hA h_p0b (vp_in_iff.mpr ⟨by omega, by omega⟩) dX4_readLock_85 (fun Ω_16 H locs h_p0b hF_16 hW hS => ?_)
          have h_p0 := h_p0.keep (fun q h1 h2 => hF_16 q (by omega))
          have h_p0k := h_p0k.keep (fun q h1 h2 => hF_16 q (by omega))
          have h_p0kt := h_p0kt.keep (fun q h1 h2 => hF_16 q (by omega))
          have hE : ∀ q : Nat, (q < p0k ∨ p0k + 1 ≤ q) → (q < p0b ∨ p0b + 13 ≤ q) → Ω_16 q = Ω q := fun q g0 g1 => (hF_16 q (by omega)).trans (hE q g0 g1)
          refine lv_aload_n hx hb dX4_readLock_86 rfl (lv_at hl 1 rfl) ?_
          refine o_Vi (rest := []) (As := []) (n := 0) hx hb hml hown hts hK hN hZ hW hS hA (c_X4_takeSemicolon l G A Ω_16 p0 p0k p0kt p0b z13_1 z13_2 z13_3 p0kt_0 p0kt_1 (by omega) (by omega) (by omega) (by omega) (by omega) (by omega) (by omega) (by omega) h_p0 h_p0k h_p0kt) (inPar_o h_p0) rfl (good_V ml_X4_86 im_X4_takeSemicolon se_X4_takeSemicolon ini_X4 co_X4_takeSemicolon) (by decide +kernel) ⟨Nat.zero_le _, Nat.zero_le _⟩ hl.1 (Nat.le_of_ble_eq_true rfl) rfl rfl dX4_readLock_87 (fun r Ω_17 H locs hp hW hS => ?_)
          obtain ⟨rfl, hz_17, h_p0k, hF_17⟩ := hp
          have h_p0 := h_p0.keep (fun q h1 h2 => hF_17 q (by omega))
          have h_p0kt := h_p0kt.keep (fun q h1 h2 => hF_17 q (by omega))
          have h_p0b := h_p0b.keep (fun q h1 h2 => hF_17 q (by omega))
          have hE : ∀ q : Nat, (q < p0k ∨ p0k + 1 ≤ q) → (q < p0b ∨ p0b + 13 ≤ q) → Ω_17 q = Ω q := fun q g0 g1 => (hF_17 q (by omega)).trans (hE q g0 g1)
          have qt_17 : 0 ≤ (f_X4_takeSemicolon z13_2 p0kt_0 p0kt_1).2.1.toInt ∧ (f_X4_takeSemicolon z13_2 p0kt_0 p0kt_1).2.1.toInt ≤ (f_X4_takeSemicolon z13_2 p0kt_0 p0kt_1).2.2.1.toInt ∧ (f_X4_takeSemicolon z13_2 p0kt_0 p0kt_1).2.2.1.toInt ≤ p0kt_1.toInt := R_takeSemicolon hT_p0kt (by omega)
          generalize (f_X4_takeSemicolon z13_2 p0kt_0 p0kt_1) = Z_17 at h_p0k hR qt_17 hz_17 ⊢
          obtain ⟨z17_0, z17_1, z17_2, z17_3⟩ := Z_17
          dsimp only at h_p0k hR qt_17 hz_17 ⊢
          rw [f_X4_readLock_C90] at hR
          subst hR
          exact W.zret (v := z17_0) hx hb hr (nb01 hz_17) (fun t ht hW9 => ⟨⟨z17_0, Ω_17, rfl, ⟨rfl, hz_17, h_p0k, h_p0b, hE⟩, by rw [oB, ht]; exact hW⟩, hS.F ht⟩) hS.2.2 dX4_readLock_90
        · rw [if_pos c_14] at hR
          have i_14 := congrArg Int32.toInt c_14
          refine lv_iconst (v := (0 : Int32)) hx hb dX4_readLock_68 (by decide) ?_
          subst hR
          exact W.zret (v := (0 : Int32)) hx hb hr (nb01 (Or.inl rfl)) (fun t ht hW9 => ⟨⟨(0 : Int32), Ω_13, rfl, ⟨rfl, (Or.inl rfl), h_p0k, h_p0b, hE⟩, by rw [oB, ht]; exact hW⟩, hS.F ht⟩) hS.2.2 dX4_readLock_69
    · rw [if_pos c_7] at hR
      have i_7 := congrArg Int32.toInt c_7
      refine lv_iconst (v := (0 : Int32)) hx hb dX4_readLock_27 (by decide) ?_
      subst hR
      exact W.zret (v := (0 : Int32)) hx hb hr (nb01 (Or.inl rfl)) (fun t ht hW9 => ⟨⟨(0 : Int32), Ω_6, rfl, ⟨rfl, (Or.inl rfl), h_p0k, h_p0b, hE⟩, by rw [oB, ht]; exact hW⟩, hS.F ht⟩) hS.2.2 dX4_readLock_28
set_option maxHeartbeats 4000000 in
set_option maxRecDepth 100000 in
theorem c_X7_kind (l : Launch) (G : Gm) (A : Nat → Prop) (Ω : Om) (p0 : Nat) (p0t : Nat) (p0_0 : Int32) (p0_1 : Int32) (p0_2 : Int32) (p0t_0 : Fn) (p0t_1 : Int32) (hT_p0t : 0 ≤ p0t_1.toInt ∧ p0t_1.toInt ≤ 160) (hk : 0 ≤ p0_0.toInt ∧ p0_0.toInt ≤ p0_1.toInt ∧ p0_1.toInt ≤ p0t_1.toInt) (h_p0 : inTok G Ω p0 p0t p0_0 p0_1 p0_2) (h_p0t : inTxt G Ω p0t p0t_0 p0t_1) : Met l yX7_kind (wz yX7_kind cX7_kind 2 (some .int)) ({ frames := 0, cells := 0, slots := 0, locals := 0 } : Room) (va_Pc [.ref p0] (oS G A Ω)) (va_Qi (fun (r : Int32) (Ω1 : Om) => r = (f_X7_kind p0_0 p0_1 p0_2 p0t_0) ∧ Ω1 = Ω) (oB G A) A) 0 0 A := by
  refine Met.ofW (cc := cX7_kind) (maxL := 2) (ret := (some .int)) (by decide) rfl ?_
  intro p e s m args below meth c s₁ B hml hv
  obtain ⟨rfl, hW, hK, hN, hZ⟩ := hv
  have hZ2 := hZ
  obtain ⟨tz, hz1, hz2⟩ := hZ2
  have hx := B.exec
  have hb := B.bytes
  have hr := B.returns
  have hts : ∀ w ∈ gt, w.before _ s = true := fun w hw => atoms_spec (ws := wz yX7_kind cX7_kind 2 (some .int)) B.pre w (List.mem_cons_of_mem _ hw)
  have hown : s.vm.findClass RX7 = some m.cls := findClass_of_methodNamed B.named
  have hlocks := B.notSynchronized
  have hA : ∀ q, A q → A q := fun _ h => h
  have hS : va_S A s.heap s.heap [] := va_S.rf
  have hS0 := hS
  have hl := lv_entry ([.ref p0]) (n := 2) (Nat.le_of_ble_eq_true rfl)
  rw [lg_entry_eq]
  generalize (lg_sl ([.ref p0]) ++ List.replicate (2 - (lg_sl ([.ref p0])).length) Slot.unset).toArray = ls at hl ⊢
  have hl : lv_has ls 2 [(0, .ref p0)] := hl
  generalize hR : (f_X7_kind p0_0 p0_1 p0_2 p0t_0) = R
  rw [f_X7_kind] at hR
  refine lv_aload_n hx hb dX7_kind_0 rfl (lv_at hl 0 rfl) ?_
  refine o_get hx hb hts hown hK hW (inTok_o h_p0) rfl ig7 3 (by decide) fl_X7_31 rfl dX7_kind_1 ?_
  refine lv_iconst (v := (1 : Int32)) hx hb dX7_kind_4 (by decide) ?_
  have j_2 : (1 : Int32).toInt = 1 := by decide
  refine lv_icmp_ne (tgt := 21) hx hb dX7_kind_5 (by decide) (fun c_1 => ?_) (fun c_1 => ?_)
  · rw [if_neg c_1] at hR
    have i_1 := rne c_1
    refine lv_bipush (v := (-9 : Int32)) hx hb dX7_kind_21 (by decide) ?_
    subst hR
    exact W.iret (v := (-9 : Int32)) hx hb hr (fun t ht hW9 => ⟨⟨(-9 : Int32), Ω, rfl, ⟨rfl, rfl⟩, by rw [oB, ht]; exact hW⟩, hS.F ht⟩) hS.2.2 dX7_kind_23
  · rw [if_pos c_1] at hR
    have i_1 := congrArg Int32.toInt c_1
    refine lv_aload_n hx hb dX7_kind_8 rfl (lv_at hl 0 rfl) ?_
    refine o_get hx hb hts hown hK hW (inTok_o h_p0) rfl ig7 2 (by decide) fl_X7_15 rfl dX7_kind_9 ?_
    refine lv_aload_n hx hb dX7_kind_12 rfl (lv_at hl 0 rfl) ?_
    refine o_get hx hb hts hown hK hW (inTok_o h_p0) rfl ig7 1 (by decide) fl_X7_19 rfl dX7_kind_13 ?_
    refine lv_isub hx hb dX7_kind_16 ?_
    refine lv_iconst (v := (2 : Int32)) hx hb dX7_kind_17 (by decide) ?_
    try have j_4 : (p0_1 - p0_0).toInt = p0_1.toInt - p0_0.toInt := fb_subI (by omega) (by omega)
    have j_5 : (2 : Int32).toInt = 2 := by decide
    refine lv_icmp_eq (tgt := 24) hx hb dX7_kind_18 (by decide) (fun c_3 => ?_) (fun c_3 => ?_)
    · rw [if_pos c_3] at hR
      have i_3 := congrArg Int32.toInt c_3
      refine lv_iconst (v := (0 : Int32)) hx hb dX7_kind_24 (by decide) ?_
      refine lv_istore_n (lv' := [(1, .int (0 : Int32)), (0, .ref p0)]) hx hb dX7_kind_25 rfl hl (by decide) rfl (fun ls hl => ?_)
      have L26 : ∀ (n_7 : Nat) (x1_6 : Int32) (H : Heap) (locs : List Loc), (0 ≤ x1_6.toInt ∧ x1_6.toInt ≤ 8 ∧ 8 - x1_6.toInt < n_7) → oW G A Ω H → va_S A s.heap H locs → ∀ ls : Array Slot, lv_has ls 2 [(0, .ref p0), (1, .int x1_6)] → (f_X7_kind_L26 p0_0 p0t_0 n_7 x1_6) = R → W p l e (headSpec (wz yX7_kind cX7_kind 2 (some .int)) ({ frames := 0, cells := 0, slots := 0, locals := 0 } : Room)).room s m ([.ref p0] : List Value).toArray below meth c H locs 0 0 (MQ below (va_Qi (fun (r : Int32) (Ω1 : Om) => r = R ∧ Ω1 = Ω) (oB G A) A) ([.ref p0] : List Value).toArray s 0 0 A) (F0 m 26 ls []) := by
        intro n_7
        induction n_7 with
        | zero =>
          intro x1_6 H locs v_26_0 hW hS ls hl hR
          exfalso
          omega
        | succ n_7 ih26 =>
          intro x1_6 H locs v_26_0 hW hS ls hl hR
          rw [f_X7_kind_L26] at hR
          refine lv_iload_n hx hb dX7_kind_26 rfl (lv_at hl 1 rfl) ?_
          refine lv_bipush (v := (8 : Int32)) hx hb dX7_kind_27 (by decide) ?_
          have j_9 : (8 : Int32).toInt = 8 := by decide
          refine lv_icmp_ge (tgt := 88) hx hb dX7_kind_29 (by decide) (fun c_8 => ?_) (fun c_8 => ?_)
          · rw [if_pos c_8] at hR
            have i_8 := rle c_8
            refine lv_bipush (v := (-9 : Int32)) hx hb dX7_kind_88 (by decide) ?_
            subst hR
            exact W.iret (v := (-9 : Int32)) hx hb hr (fun t ht hW9 => ⟨⟨(-9 : Int32), Ω, rfl, ⟨rfl, rfl⟩, by rw [oB, ht]; exact hW⟩, hS.F ht⟩) hS.2.2 dX7_kind_90
          · rw [if_neg c_8] at hR
            have i_8 := rnle c_8
            refine lv_aload_n hx hb dX7_kind_32 rfl (lv_at hl 0 rfl) ?_
            refine o_get hx hb hts hown hK hW (inTok_o h_p0) rfl ig7 0 (by decide) fl_X7_9 rfl dX7_kind_33 ?_
            refine o_get hx hb hts hown hK hW (inTxt_o h_p0t) rfl ig6 0 (by decide) fl_X7_27 rfl dX7_kind_36 ?_
            refine lv_aload_n hx hb dX7_kind_39 rfl (lv_at hl 0 rfl) ?_
            refine o_get hx hb hts hown hK hW (inTok_o h_p0) rfl ig7 1 (by decide) fl_X7_19 rfl dX7_kind_40 ?_
            refine o_iald hx hb hK hW (inTxt_a0 h_p0t) (vp_in_iff.mpr ⟨by omega, by omega⟩) dX7_kind_43 ?_
            refine va_getsN hx hb hz1 hS hown (va_Nw.use rfl hN.2) (fun _ h => h) dX7_kind_44 ?_
            refine lv_iconst (v := (2 : Int32)) hx hb dX7_kind_47 (by decide) ?_
            refine lv_iload_n hx hb dX7_kind_48 rfl (lv_at hl 1 rfl) ?_
            refine lv_imul hx hb dX7_kind_49 ?_
            try have j_10 : ((2 : Int32) * x1_6).toInt = 2 * x1_6.toInt := rg_mul2 (by decide) (by omega) (by omega)
            refine va_tc hx hb hz2 hS (vp_in_iff.mpr ⟨by omega, by omega⟩) rfl dX7_kind_50 ?_
            refine lv_icmp_ne (tgt := 82) hx hb dX7_kind_51 (by decide) (fun c_11 => ?_) (fun c_11 => ?_)
            · rw [if_neg c_11] at hR
              have i_11 := rne c_11
              refine lv_iinc (v := (x1_6 + (1 : Int32))) (lv' := [(1, .int (x1_6 + (1 : Int32))), (0, .ref p0)]) hx hb dX7_kind_82 hl (k := 1) rfl rfl (by decide) rfl (fun ls hl => ?_)
              refine lv_goto (tgt := 26) hx hb dX7_kind_85 (by decide) ?_
              try have j_12 : (x1_6 + (1 : Int32)).toInt = x1_6.toInt + (1 : Int32).toInt := fb_addI (by omega) (by omega)
              exact ih26 (x1_6 + (1 : Int32)) H locs (by omega) hW hS ls (lv_sub hl [1, 0] rfl) hR
            · rw [if_pos c_11] at hR
              have i_11 := congrArg Int32.toInt c_11
              refine lv_aload_n hx hb dX7_kind_54 rfl (lv_at hl 0 rfl) ?_
              refine o_get hx hb hts hown hK hW (inTok_o h_p0) rfl ig7 0 (by decide) fl_X7_9 rfl dX7_kind_55 ?_
              refine o_get hx hb hts hown hK hW (inTxt_o h_p0t) rfl ig6 0 (by decide) fl_X7_27 rfl dX7_kind_58 ?_
              refine lv_aload_n hx hb dX7_kind_61 rfl (lv_at hl 0 rfl) ?_
              refine o_get hx hb hts hown hK hW (inTok_o h_p0) rfl ig7 1 (by decide) fl_X7_19 rfl dX7_kind_62 ?_
              refine lv_iconst (v := (1 : Int32)) hx hb dX7_kind_65 (by decide) ?_
              refine lv_iadd hx hb dX7_kind_66 ?_
              try have j_13 : (p0_0 + (1 : Int32)).toInt = p0_0.toInt + (1 : Int32).toInt := fb_addI (by omega) (by omega)
              refine o_iald hx hb hK hW (inTxt_a0 h_p0t) (vp_in_iff.mpr ⟨by omega, by omega⟩) dX7_kind_67 ?_
              refine va_getsN hx hb hz1 hS hown (va_Nw.use rfl hN.2) (fun _ h => h) dX7_kind_68 ?_
              refine lv_iconst (v := (2 : Int32)) hx hb dX7_kind_71 (by decide) ?_
              refine lv_iload_n hx hb dX7_kind_72 rfl (lv_at hl 1 rfl) ?_
              refine lv_imul hx hb dX7_kind_73 ?_
              refine lv_iconst (v := (1 : Int32)) hx hb dX7_kind_74 (by decide) ?_
              refine lv_iadd hx hb dX7_kind_75 ?_
              try have j_14 : (((2 : Int32) * x1_6) + (1 : Int32)).toInt = ((2 : Int32) * x1_6).toInt + (1 : Int32).toInt := fb_addI (by omega) (by omega)
              refine va_tc hx hb hz2 hS (vp_in_iff.mpr ⟨by omega, by omega⟩) rfl dX7_kind_76 ?_
              refine lv_icmp_ne (tgt := 82) hx hb dX7_kind_77 (by decide) (fun c_15 => ?_) (fun c_15 => ?_)
              · rw [if_neg c_15] at hR
                have i_15 := rne c_15
                refine lv_iinc (v := (x1_6 + (1 : Int32))) (lv' := [(1, .int (x1_6 + (1 : Int32))), (0, .ref p0)]) hx hb dX7_kind_82 hl (k := 1) rfl rfl (by decide) rfl (fun ls hl => ?_)
                refine lv_goto (tgt := 26) hx hb dX7_kind_85 (by decide) ?_
                try have j_16 : (x1_6 + (1 : Int32)).toInt = x1_6.toInt + (1 : Int32).toInt := fb_addI (by omega) (by omega)
                exact ih26 (x1_6 + (1 : Int32)) H locs (by omega) hW hS ls (lv_sub hl [1, 0] rfl) hR
              · rw [if_pos c_15] at hR
                have i_15 := congrArg Int32.toInt c_15
                refine lv_iload_n hx hb dX7_kind_80 rfl (lv_at hl 1 rfl) ?_
                subst hR
                exact W.iret (v := x1_6) hx hb hr (fun t ht hW9 => ⟨⟨x1_6, Ω, rfl, ⟨rfl, rfl⟩, by rw [oB, ht]; exact hW⟩, hS.F ht⟩) hS.2.2 dX7_kind_81
      have j_17 : (0 : Int32).toInt = 0 := by decide
      exact L26 4000 (0 : Int32) s.heap [] (by omega) hW hS ls (lv_sub hl [1, 0] rfl) hR
    · rw [if_neg c_3] at hR
      have i_3 := rne c_3
      refine lv_bipush (v := (-9 : Int32)) hx hb dX7_kind_21 (by decide) ?_
      subst hR
      exact W.iret (v := (-9 : Int32)) hx hb hr (fun t ht hW9 => ⟨⟨(-9 : Int32), Ω, rfl, ⟨rfl, rfl⟩, by rw [oB, ht]; exact hW⟩, hS.F ht⟩) hS.2.2 dX7_kind_23
set_option maxHeartbeats 4000000 in
set_option maxRecDepth 100000 in
theorem c_X4_takeKind (l : Launch) (G : Gm) (A : Nat → Prop) (Ω : Om) (p0 : Nat) (p0k : Nat) (p0kt : Nat) (p0b : Nat) (p0k_0 : Int32) (p0k_1 : Int32) (p0k_2 : Int32) (p0kt_0 : Fn) (p0kt_1 : Int32) (hd_p0_p0k : p0 + 1 ≤ p0k ∨ p0k + 1 ≤ p0) (hd_p0_p0kt : p0 + 1 ≤ p0kt ∨ p0kt + 2 ≤ p0) (hd_p0_p0b : p0 + 1 ≤ p0b ∨ p0b + 13 ≤ p0) (hd_p0k_p0kt : p0k + 1 ≤ p0kt ∨ p0kt + 2 ≤ p0k) (hd_p0k_p0b : p0k + 1 ≤ p0b ∨ p0b + 13 ≤ p0k) (hd_p0kt_p0b : p0kt + 2 ≤ p0b ∨ p0b + 13 ≤ p0kt) (hT_p0kt : 0 ≤ p0kt_1.toInt ∧ p0kt_1.toInt ≤ 160) (he : 0 ≤ p0k_1.toInt ∧ p0k_1.toInt ≤ p0kt_1.toInt) (h_p0 : inPar G Ω p0 p0k p0b) (h_p0k : inTok G Ω p0k p0kt p0k_0 p0k_1 p0k_2) (h_p0kt : inTxt G Ω p0kt p0kt_0 p0kt_1) : Met l yX4_takeKind (wz yX4_takeKind cX4_takeKind 1 (some .boolean)) ({ frames := 2, cells := 0, slots := 0, locals := 41 } : Room) (va_Pc [.ref p0] (oS G A Ω)) (va_Qi (fun (r : Int32) (Ω1 : Om) => r = (f_X4_takeKind p0k_1 p0kt_0 p0kt_1).1 ∧ (r = 0 ∨ r = 1) ∧ inTok G Ω1 p0k p0kt ((f_X4_takeKind p0k_1 p0kt_0 p0kt_1).2.1) ((f_X4_takeKind p0k_1 p0kt_0 p0kt_1).2.2.1) ((f_X4_takeKind p0k_1 p0kt_0 p0kt_1).2.2.2) ∧ (∀ q : Nat, (q < p0k ∨ p0k + 1 ≤ q) → Ω1 q = Ω q)) (oB G A) A) 0 0 A := by
  refine Met.ofW (cc := cX4_takeKind) (maxL := 1) (ret := (some .boolean)) (by decide) rfl ?_
  intro p e s m args below meth c s₁ B hml hv
  obtain ⟨rfl, hW, hK, hN, hZ⟩ := hv
  have hx := B.exec
  have hb := B.bytes
  have hr := B.returns
  have hts : ∀ w ∈ gt, w.before _ s = true := fun w hw => atoms_spec (ws := wz yX4_takeKind cX4_takeKind 1 (some .boolean)) B.pre w (List.mem_cons_of_mem _ hw)
  have hown : s.vm.findClass RX4 = some m.cls := findClass_of_methodNamed B.named
  have hlocks := B.notSynchronized
  have hA : ∀ q, A q → A q := fun _ h => h
  have hS : va_S A s.heap s.heap [] := va_S.rf
  have hS0 := hS
  have hl := lv_entry ([.ref p0]) (n := 1) (Nat.le_of_ble_eq_true rfl)
  rw [lg_entry_eq]
  generalize (lg_sl ([.ref p0]) ++ List.replicate (1 - (lg_sl ([.ref p0])).length) Slot.unset).toArray = ls at hl ⊢
  have hl : lv_has ls 1 [(0, .ref p0)] := hl
  have hE : ∀ q : Nat, (q < p0k ∨ p0k + 1 ≤ q) → Ω q = Ω q := by intros; rfl
  generalize hR : (f_X4_takeKind p0k_1 p0kt_0 p0kt_1) = R
  rw [f_X4_takeKind] at hR
  refine lv_aload_n hx hb dX4_takeKind_0 rfl (lv_at hl 0 rfl) ?_
  refine o_get hx hb hts hown hK hW (inPar_o h_p0) rfl ig4 0 (by decide) fl_X4_23 rfl dX4_takeKind_1 ?_
  refine o_Vv (rest := []) (As := []) (n := 0) hx hb hml hown hts hK hN hZ hW hS hA (c_X7_advance l G A Ω p0k p0kt p0k_0 p0k_1 p0k_2 p0kt_0 p0kt_1 (by omega) (by omega) (by omega) h_p0k h_p0kt) (inTok_o h_p0k) rfl (good_V ml_X4_33 im_X7_advance se_X7_advance ini_X7 co_X7_advance) (by decide +kernel) ⟨Nat.zero_le _, Nat.zero_le _⟩ hl.1 (Nat.le_of_ble_eq_true rfl) rfl rfl dX4_takeKind_4 (fun Ω_1 H locs hp hW hS => ?_)
  obtain ⟨h_p0k, hF_1⟩ := hp
  have h_p0 := h_p0.keep (fun q h1 h2 => hF_1 q (by omega))
  have h_p0kt := h_p0kt.keep (fun q h1 h2 => hF_1 q (by omega))
  have hE : ∀ q : Nat, (q < p0k ∨ p0k + 1 ≤ q) → Ω_1 q = Ω q := fun q g0 => (hF_1 q (by omega)).trans (hE q g0)
  have qt_1 : 0 ≤ (f_X7_advance p0k_1 p0kt_0 p0kt_1).1.toInt ∧ (f_X7_advance p0k_1 p0kt_0 p0kt_1).1.toInt ≤ (f_X7_advance p0k_1 p0kt_0 p0kt_1).2.1.toInt ∧ (f_X7_advance p0k_1 p0kt_0 p0kt_1).2.1.toInt ≤ p0kt_1.toInt := R_advance hT_p0kt (by omega)
  generalize (f_X7_advance p0k_1 p0kt_0 p0kt_1) = Z_1 at h_p0k hR qt_1
  obtain ⟨z1_0, z1_1, z1_2⟩ := Z_1
  dsimp only at h_p0k hR qt_1
  rw [f_X4_takeKind_C7] at hR
  refine lv_aload_n hx hb dX4_takeKind_7 rfl (lv_at hl 0 rfl) ?_
  refine o_get hx hb hts hown hK hW (inPar_o h_p0) rfl ig4 0 (by decide) fl_X4_23 rfl dX4_takeKind_8 ?_
  refine o_ViR (rest := []) (As := []) (n := 0) hx hb hml hown hts hK hN hZ hW hS hA (c_X7_kind l G A Ω_1 p0k p0kt z1_0 z1_1 z1_2 p0kt_0 p0kt_1 (by omega) (by omega) h_p0k h_p0kt) (inTok_o h_p0k) rfl (good_V ml_X4_101 im_X7_kind se_X7_kind ini_X7 co_X7_kind) (by decide +kernel) ⟨Nat.zero_le _, Nat.zero_le _⟩ hl.1 (Nat.le_of_ble_eq_true rfl) rfl rfl dX4_takeKind_11 (fun r H locs hp hW hS => ?_)
  subst hp
  refine lv_bipush (v := (-9 : Int32)) hx hb dX4_takeKind_14 (by decide) ?_
  have j_4 : (-9 : Int32).toInt = -9 := by decide
  refine lv_icmp_eq (tgt := 23) hx hb dX4_takeKind_16 (by decide) (fun c_3 => ?_) (fun c_3 => ?_)
  · rw [if_pos c_3] at hR
    have i_3 := congrArg Int32.toInt c_3
    refine lv_iconst (v := (0 : Int32)) hx hb dX4_takeKind_23 (by decide) ?_
    subst hR
    exact W.zret (v := (0 : Int32)) hx hb hr (nb01 (Or.inl rfl)) (fun t ht hW9 => ⟨⟨(0 : Int32), Ω_1, rfl, ⟨rfl, (Or.inl rfl), h_p0k, hE⟩, by rw [oB, ht]; exact hW⟩, hS.F ht⟩) hS.2.2 dX4_takeKind_24
  · rw [if_neg c_3] at hR
    have i_3 := rne c_3
    refine lv_iconst (v := (1 : Int32)) hx hb dX4_takeKind_19 (by decide) ?_
    refine lv_goto (tgt := 24) hx hb dX4_takeKind_20 (by decide) ?_
    subst hR
    exact W.zret (v := (1 : Int32)) hx hb hr (nb01 (Or.inr rfl)) (fun t ht hW9 => ⟨⟨(1 : Int32), Ω_1, rfl, ⟨rfl, (Or.inr rfl), h_p0k, hE⟩, by rw [oB, ht]; exact hW⟩, hS.F ht⟩) hS.2.2 dX4_takeKind_24
set_option maxHeartbeats 4000000 in
set_option maxRecDepth 100000 in
theorem c_X4_readField (l : Launch) (G : Gm) (A : Nat → Prop) (Ω : Om) (p0 : Nat) (p0k : Nat) (p0kt : Nat) (p0b : Nat) (p0k_0 : Int32) (p0k_1 : Int32) (p0k_2 : Int32) (p0kt_0 : Fn) (p0kt_1 : Int32) (p0b_0 : Blk) (hd_p0_p0k : p0 + 1 ≤ p0k ∨ p0k + 1 ≤ p0) (hd_p0_p0kt : p0 + 1 ≤ p0kt ∨ p0kt + 2 ≤ p0) (hd_p0_p0b : p0 + 1 ≤ p0b ∨ p0b + 13 ≤ p0) (hd_p0k_p0kt : p0k + 1 ≤ p0kt ∨ p0kt + 2 ≤ p0k) (hd_p0k_p0b : p0k + 1 ≤ p0b ∨ p0b + 13 ≤ p0k) (hd_p0kt_p0b : p0kt + 2 ≤ p0b ∨ p0b + 13 ≤ p0kt) (hT_p0kt : 0 ≤ p0kt_1.toInt ∧ p0kt_1.toInt ≤ 160) (hB_p0b : BlkInv p0b_0) (hk : 0 ≤ p0k_0.toInt ∧ p0k_0.toInt ≤ p0k_1.toInt ∧ p0k_1.toInt ≤ p0kt_1.toInt) (h_p0 : inPar G Ω p0 p0k p0b) (h_p0k : inTok G Ω p0k p0kt p0k_0 p0k_1 p0k_2) (h_p0kt : inTxt G Ω p0kt p0kt_0 p0kt_1) (h_p0b : inBlk G Ω p0b p0b_0) : Met l yX4_readField (wz yX4_readField cX4_readField 7 (some .boolean)) ({ frames := 3, cells := 0, slots := 0, locals := 64 } : Room) (va_Pc [.ref p0] (oS G A Ω)) (va_Qi (fun (r : Int32) (Ω1 : Om) => r = (f_X4_readField p0k_0 p0k_1 p0k_2 p0kt_0 p0kt_1 p0b_0).1 ∧ (r = 0 ∨ r = 1) ∧ inTok G Ω1 p0k p0kt ((f_X4_readField p0k_0 p0k_1 p0k_2 p0kt_0 p0kt_1 p0b_0).2.1) ((f_X4_readField p0k_0 p0k_1 p0k_2 p0kt_0 p0kt_1 p0b_0).2.2.1) ((f_X4_readField p0k_0 p0k_1 p0k_2 p0kt_0 p0kt_1 p0b_0).2.2.2.1) ∧ inBlk G Ω1 p0b ((f_X4_readField p0k_0 p0k_1 p0k_2 p0kt_0 p0kt_1 p0b_0).2.2.2.2) ∧ (∀ q : Nat, (q < p0k ∨ p0k + 1 ≤ q) → (q < p0b ∨ p0b + 13 ≤ q) → Ω1 q = Ω q)) (oB G A) A) 0 0 A := by
  refine Met.ofW (cc := cX4_readField) (maxL := 7) (ret := (some .boolean)) (by decide) rfl ?_
  intro p e s m args below meth c s₁ B hml hv
  obtain ⟨rfl, hW, hK, hN, hZ⟩ := hv
  have hx := B.exec
  have hb := B.bytes
  have hr := B.returns
  have hts : ∀ w ∈ gt, w.before _ s = true := fun w hw => atoms_spec (ws := wz yX4_readField cX4_readField 7 (some .boolean)) B.pre w (List.mem_cons_of_mem _ hw)
  have hown : s.vm.findClass RX4 = some m.cls := findClass_of_methodNamed B.named
  have hlocks := B.notSynchronized
  have hA : ∀ q, A q → A q := fun _ h => h
  have hS : va_S A s.heap s.heap [] := va_S.rf
  have hS0 := hS
  have hl := lv_entry ([.ref p0]) (n := 7) (Nat.le_of_ble_eq_true rfl)
  rw [lg_entry_eq]
  generalize (lg_sl ([.ref p0]) ++ List.replicate (7 - (lg_sl ([.ref p0])).length) Slot.unset).toArray = ls at hl ⊢
  have hl : lv_has ls 7 [(0, .ref p0)] := hl
  have hE : ∀ q : Nat, (q < p0k ∨ p0k + 1 ≤ q) → (q < p0b ∨ p0b + 13 ≤ q) → Ω q = Ω q := by intros; rfl
  generalize hR : (f_X4_readField p0k_0 p0k_1 p0k_2 p0kt_0 p0kt_1 p0b_0) = R
  rw [f_X4_readField] at hR
  refine lv_aload_n hx hb dX4_readField_0 rfl (lv_at hl 0 rfl) ?_
  refine o_get hx hb hts hown hK hW (inPar_o h_p0) rfl ig4 1 (by decide) fl_X4_12 rfl dX4_readField_1 ?_
  refine o_get hx hb hts hown hK hW (inBlk_o h_p0b) rfl ig0 1 (by decide) fl_X4_89 rfl dX4_readField_4 ?_
  refine lv_istore_n (lv' := [(1, .int (p0b_0 0 1)), (0, .ref p0)]) hx hb dX4_readField_7 rfl hl (by decide) rfl (fun ls hl => ?_)
  refine lv_aload_n hx hb dX4_readField_8 rfl (lv_at hl 1 rfl) ?_
  refine o_get hx hb hts hown hK hW (inPar_o h_p0) rfl ig4 1 (by decide) fl_X4_12 rfl dX4_readField_9 ?_
  refine o_get hx hb hts hown hK hW (inBlk_o h_p0b) rfl ig0 0 (by decide) fl_X4_66 rfl dX4_readField_12 ?_
  refine lv_iconst (v := (1 : Int32)) hx hb dX4_readField_15 (by decide) ?_
  refine lv_isub hx hb dX4_readField_16 ?_
  refine lv_istore_n (lv' := [(2, .int ((p0b_0 0 0) - (1 : Int32))), (1, .int (p0b_0 0 1)), (0, .ref p0)]) hx hb dX4_readField_17 rfl hl (by decide) rfl (fun ls hl => ?_)
  refine lv_iload_n hx hb dX4_readField_18 rfl (lv_at hl 1 rfl) ?_
  refine lv_bipush (v := (12 : Int32)) hx hb dX4_readField_19 (by decide) ?_
  have j_2 : (12 : Int32).toInt = 12 := by decide
  try have j_3 : 0 ≤ (p0b_0 0 1).toInt ∧ (p0b_0 0 1).toInt ≤ 12 := BI_flds (by assumption)
  refine lv_icmp_ge (tgt := 35) hx hb dX4_readField_21 (by decide) (fun c_1 => ?_) (fun c_1 => ?_)
  · rw [if_pos c_1] at hR
    have i_1 := rle c_1
    refine lv_iconst (v := (0 : Int32)) hx hb dX4_readField_35 (by decide) ?_
    subst hR
    exact W.zret (v := (0 : Int32)) hx hb hr (nb01 (Or.inl rfl)) (fun t ht hW9 => ⟨⟨(0 : Int32), Ω, rfl, ⟨rfl, (Or.inl rfl), h_p0k, h_p0b, hE⟩, by rw [oB, ht]; exact hW⟩, hS.F ht⟩) hS.2.2 dX4_readField_36
  · rw [if_neg c_1] at hR
    have i_1 := rnle c_1
    refine lv_iload_n hx hb dX4_readField_24 rfl (lv_at hl 0 rfl) ?_
    try have j_5 : 0 ≤ (p0b_0 0 0).toInt ∧ (p0b_0 0 0).toInt ≤ 6 := BI_regs (by assumption)
    have j_6 : (1 : Int32).toInt = 1 := by decide
    try have j_7 : ((p0b_0 0 0) - (1 : Int32)).toInt = (p0b_0 0 0).toInt - (1 : Int32).toInt := fb_subI (by omega) (by omega)
    have j_8 : (0 : Int32).toInt = 0 := by decide
    refine lv_if_lt (tgt := 35) hx hb dX4_readField_25 (by decide) (fun c_4 => ?_) (fun c_4 => ?_)
    · rw [if_pos c_4] at hR
      have i_4 := rlt c_4
      refine lv_iconst (v := (0 : Int32)) hx hb dX4_readField_35 (by decide) ?_
      subst hR
      exact W.zret (v := (0 : Int32)) hx hb hr (nb01 (Or.inl rfl)) (fun t ht hW9 => ⟨⟨(0 : Int32), Ω, rfl, ⟨rfl, (Or.inl rfl), h_p0k, h_p0b, hE⟩, by rw [oB, ht]; exact hW⟩, hS.F ht⟩) hS.2.2 dX4_readField_36
    · rw [if_neg c_4] at hR
      have i_4 := rnlt c_4
      refine lv_aload_n hx hb dX4_readField_28 rfl (lv_at hl 2 rfl) ?_
      refine o_Vi (rest := []) (As := []) (n := 0) hx hb hml hown hts hK hN hZ hW hS hA (c_X4_takeKind l G A Ω p0 p0k p0kt p0b p0k_0 p0k_1 p0k_2 p0kt_0 p0kt_1 (by omega) (by omega) (by omega) (by omega) (by omega) (by omega) (by omega) (by omega) h_p0 h_p0k h_p0kt) (inPar_o h_p0) rfl (good_V ml_X4_92 im_X4_takeKind se_X4_takeKind ini_X4 co_X4_takeKind) (by decide +kernel) ⟨Nat.zero_le _, Nat.zero_le _⟩ hl.1 (Nat.le_of_ble_eq_true rfl) rfl rfl dX4_readField_29 (fun r Ω_9 H locs hp hW hS => ?_)
      obtain ⟨rfl, hz_9, h_p0k, hF_9⟩ := hp
      have h_p0 := h_p0.keep (fun q h1 h2 => hF_9 q (by omega))
      have h_p0kt := h_p0kt.keep (fun q h1 h2 => hF_9 q (by omega))
      have h_p0b := h_p0b.keep (fun q h1 h2 => hF_9 q (by omega))
      have hE : ∀ q : Nat, (q < p0k ∨ p0k + 1 ≤ q) → (q < p0b ∨ p0b + 13 ≤ q) → Ω_9 q = Ω q := fun q g0 g1 => (hF_9 q (by omega)).trans (hE q g0 g1)
      have qt_9 : 0 ≤ (f_X4_takeKind p0k_1 p0kt_0 p0kt_1).2.1.toInt ∧ (f_X4_takeKind p0k_1 p0kt_0 p0kt_1).2.1.toInt ≤ (f_X4_takeKind p0k_1 p0kt_0 p0kt_1).2.2.1.toInt ∧ (f_X4_takeKind p0k_1 p0kt_0 p0kt_1).2.2.1.toInt ≤ p0kt_1.toInt := R_takeKind hT_p0kt (by omega)
      generalize (f_X4_takeKind p0k_1 p0kt_0 p0kt_1) = Z_9 at h_p0k hR qt_9 hz_9 ⊢
      obtain ⟨z9_0, z9_1, z9_2, z9_3⟩ := Z_9
      dsimp only at h_p0k hR qt_9 hz_9 ⊢
      rw [f_X4_readField_C32] at hR
      refine lv_if_ne (tgt := 37) hx hb dX4_readField_32 (by decide) (fun c_10 => ?_) (fun c_10 => ?_)
      · rw [if_neg c_10] at hR
        have i_10 := rne c_10
        refine lv_aload_n hx hb dX4_readField_37 rfl (lv_at hl 2 rfl) ?_
        refine o_get hx hb hts hown hK hW (inPar_o h_p0) rfl ig4 1 (by decide) fl_X4_12 rfl dX4_readField_38 ?_
        refine o_get hx hb hts hown hK hW (inBlk_o h_p0b) rfl ig0 6 (by decide) fl_X4_95 rfl dX4_readField_41 ?_
        refine lv_iload_n hx hb dX4_readField_44 rfl (lv_at hl 1 rfl) ?_
        refine lv_iload_n hx hb dX4_readField_45 rfl (lv_at hl 0 rfl) ?_
        refine wBlk_3 hx hb hK hW hS hA h_p0b (vp_in_iff.mpr ⟨by omega, by omega⟩) dX4_readField_46 (fun Ω_11 H locs h_p0b hF_11 hW hS => ?_)
        have h_p0 := h_p0.keep (fun q h1 h2 => hF_11 q (by omega))
        have h_p0k := h_p0k.keep (fun q h1 h2 => hF_11 q (by omega))
        have h_p0kt := h_p0kt.keep (fun q h1 h2 => hF_11 q (by omega))
        have hE : ∀ q : Nat, (q < p0k ∨ p0k + 1 ≤ q) → (q < p0b ∨ p0b + 13 ≤ q) → Ω_11 q = Ω q := fun q g0 g1 => (hF_11 q (by omega)).trans (hE q g0 g1)
        refine lv_aload_n hx hb dX4_readField_47 rfl (lv_at hl 2 rfl) ?_
        refine o_get hx hb hts hown hK hW (inPar_o h_p0) rfl ig4 1 (by decide) fl_X4_12 rfl dX4_readField_48 ?_
        refine o_get hx hb hts hown hK hW (inBlk_o h_p0b) rfl ig0 7 (by decide) fl_X4_98 rfl dX4_readField_51 ?_
        refine lv_iload_n hx hb dX4_readField_54 rfl (lv_at hl 1 rfl) ?_
        refine lv_aload_n hx hb dX4_readField_55 rfl (lv_at hl 2 rfl) ?_
        refine o_get hx hb hts hown hK hW (inPar_o h_p0) rfl ig4 0 (by decide) fl_X4_23 rfl dX4_readField_56 ?_
        refine o_ViR (rest := [.int (p0b_0 0 1), .ref (p0b + 5)]) (As := []) (n := 0) hx hb hml hown hts hK hN hZ hW hS hA (c_X7_kind l G A Ω_11 p0k p0kt z9_1 z9_2 z9_3 p0kt_0 p0kt_1 (by omega) (by omega) h_p0k h_p0kt) (inTok_o h_p0k) rfl (good_V ml_X4_101 im_X7_kind se_X7_kind ini_X7 co_X7_kind) (by decide +kernel) ⟨Nat.zero_le _, Nat.zero_le _⟩ hl.1 (Nat.le_of_ble_eq_true rfl) rfl rfl dX4_readField_59 (fun r H locs hp hW hS => ?_)
        subst hp
        refine wBlk_4 hx hb hK hW hS hA h_p0b (vp_in_iff.mpr ⟨by omega, by omega⟩) dX4_readField_62 (fun Ω_13 H locs h_p0b hF_13 hW hS => ?_)
        have h_p0 := h_p0.keep (fun q h1 h2 => hF_13 q (by omega))
        have h_p0k := h_p0k.keep (fun q h1 h2 => hF_13 q (by omega))
        have h_p0kt := h_p0kt.keep (fun q h1 h2 => hF_13 q (by omega))
        have hE : ∀ q : Nat, (q < p0k ∨ p0k + 1 ≤ q) → (q < p0b ∨ p0b + 13 ≤ q) → Ω_13 q = Ω q := fun q g0 g1 => (hF_13 q (by omega)).trans (hE q g0 g1)
        refine lv_aload_n hx hb dX4_readField_63 rfl (lv_at hl 2 rfl) ?_
        refine o_get hx hb hts hown hK hW (inPar_o h_p0) rfl ig4 1 (by decide) fl_X4_12 rfl dX4_readField_64 ?_
        refine lv_iload_n hx hb dX4_readField_67 rfl (lv_at hl 0 rfl) ?_
        have hB9 : BlkInv (bw (bw p0b_0 4 (p0b_0 0 1).toNatClampNeg ((p0b_0 0 0) - (1 : Int32))) 5 (p0b_0 0 1).toNatClampNeg (f_X7_kind z9_1 z9_2 z9_3 p0kt_0)) := BI_bwo (BI_bw4 hB_p0b (by omega)) (by decide)
        refine o_ViR (rest := []) (As := [.int ((p0b_0 0 0) - (1 : Int32))]) (n := 1) hx hb hml hown hts hK hN hZ hW hS hA (c_X0_usedBits l G A Ω_13 p0b (bw (bw p0b_0 4 (p0b_0 0 1).toNatClampNeg ((p0b_0 0 0) - (1 : Int32))) 5 (p0b_0 0 1).toNatClampNeg (f_X7_kind z9_1 z9_2 z9_3 p0kt_0)) ((p0b_0 0 0) - (1 : Int32)) (by assumption) h_p0b) (inBlk_o h_p0b) rfl (good_V ml_X4_103 im_X0_usedBits se_X0_usedBits ini_X0 co_X0_usedBits) (by decide +kernel) ⟨Nat.zero_le _, Nat.zero_le _⟩ hl.1 (Nat.le_of_ble_eq_true rfl) rfl rfl dX4_readField_68 (fun r H locs hp hW hS => ?_)
        subst hp
        refine lv_istore_n (lv' := [(3, .int (f_X0_usedBits (bw (bw p0b_0 4 (p0b_0 0 1).toNatClampNeg ((p0b_0 0 0) - (1 : Int32))) 5 (p0b_0 0 1).toNatClampNeg (f_X7_kind z9_1 z9_2 z9_3 p0kt_0)) ((p0b_0 0 0) - (1 : Int32)))), (2, .int ((p0b_0 0 0) - (1 : Int32))), (1, .int (p0b_0 0 1)), (0, .ref p0)]) hx hb dX4_readField_71 rfl hl (by decide) rfl (fun ls hl => ?_)
        refine lv_aload_n hx hb dX4_readField_72 rfl (lv_at hl 3 rfl) ?_
        refine lv_iconst (v := (0 : Int32)) hx hb dX4_readField_73 (by decide) ?_
        refine lv_bipush (v := (7 : Int32)) hx hb dX4_readField_74 (by decide) ?_
        have j_15 : (7 : Int32).toInt = 7 := by decide
        refine o_Vi (rest := []) (As := [.int (0 : Int32), .int (7 : Int32)]) (n := 2) hx hb hml hown hts hK hN hZ hW hS hA (c_X4_takeNumber l G A Ω_13 p0 p0k p0kt p0b z9_1 z9_2 z9_3 p0kt_0 p0kt_1 (0 : Int32) (7 : Int32) (by omega) (by omega) (by omega) (by omega) (by omega) (by omega) (by omega) (by omega) h_p0 h_p0k h_p0kt) (inPar_o h_p0) rfl (good_V ml_X4_69 im_X4_takeNumber se_X4_takeNumber ini_X4 co_X4_takeNumber) (by decide +kernel) ⟨Nat.zero_le _, Nat.zero_le _⟩ hl.1 (Nat.le_of_ble_eq_true rfl) rfl rfl dX4_readField_76 (fun r Ω_16 H locs hp hW hS => ?_)
        obtain ⟨rfl, hz_16, h_p0k, hF_16⟩ := hp
        have h_p0 := h_p0.keep (fun q h1 h2 => hF_16 q (by omega))
        have h_p0kt := h_p0kt.keep (fun q h1 h2 => hF_16 q (by omega))
        have h_p0b := h_p0b.keep (fun q h1 h2 => hF_16 q (by omega))
        have hE : ∀ q : Nat, (q < p0k ∨ p0k + 1 ≤ q) → (q < p0b ∨ p0b + 13 ≤ q) → Ω_16 q = Ω q := fun q g0 g1 => (hF_16 q (by omega)).trans (hE q g0 g1)
        have qt_16 : 0 ≤ (f_X4_takeNumber z9_2 p0kt_0 p0kt_1 (0 : Int32) (7 : Int32)).2.1.toInt ∧ (f_X4_takeNumber z9_2 p0kt_0 p0kt_1 (0 : Int32) (7 : Int32)).2.1.toInt ≤ (f_X4_takeNumber z9_2 p0kt_0 p0kt_1 (0 : Int32) (7 : Int32)).2.2.1.toInt ∧ (f_X4_takeNumber z9_2 p0kt_0 p0kt_1 (0 : Int32) (7 : Int32)).2.2.1.toInt ≤ p0kt_1.toInt := (R_takeNumber hT_p0kt (by omega)).1
        have qn_16 : (f_X4_takeNumber z9_2 p0kt_0 p0kt_1 (0 : Int32) (7 : Int32)).1.toInt = 0 ∨ ((0 : Int32).toInt ≤ (f_X7_number (f_X4_takeNumber z9_2 p0kt_0 p0kt_1 (0 : Int32) (7 : Int32)).2.1 (f_X4_takeNumber z9_2 p0kt_0 p0kt_1 (0 : Int32) (7 : Int32)).2.2.1 (f_X4_takeNumber z9_2 p0kt_0 p0kt_1 (0 : Int32) (7 : Int32)).2.2.2 p0kt_0).toInt ∧ (f_X7_number (f_X4_takeNumber z9_2 p0kt_0 p0kt_1 (0 : Int32) (7 : Int32)).2.1 (f_X4_takeNumber z9_2 p0kt_0 p0kt_1 (0 : Int32) (7 : Int32)).2.2.1 (f_X4_takeNumber z9_2 p0kt_0 p0kt_1 (0 : Int32) (7 : Int32)).2.2.2 p0kt_0).toInt ≤ (7 : Int32).toInt) := (R_takeNumber hT_p0kt (by omega)).2
        generalize (f_X4_takeNumber z9_2 p0kt_0 p0kt_1 (0 : Int32) (7 : Int32)) = Z_16 at h_p0k hR qt_16 qn_16 hz_16 ⊢
        obtain ⟨z16_0, z16_1, z16_2, z16_3⟩ := Z_16
        dsimp only at h_p0k hR qt_16 qn_16 hz_16 ⊢
        rw [f_X4_readField_C79] at hR
        refine lv_if_ne (tgt := 84) hx hb dX4_readField_79 (by decide) (fun c_17 => ?_) (fun c_17 => ?_)
        · rw [if_neg c_17] at hR
          have i_17 := rne c_17
          refine lv_aload_n hx hb dX4_readField_84 rfl (lv_at hl 3 rfl) ?_
          refine o_get hx hb hts hown hK hW (inPar_o h_p0) rfl ig4 0 (by decide) fl_X4_23 rfl dX4_readField_85 ?_
          refine o_ViR (rest := []) (As := []) (n := 0) hx hb hml hown hts hK hN hZ hW hS hA (c_X7_number l G A Ω_16 p0k p0kt z16_1 z16_2 z16_3 p0kt_0 p0kt_1 (by omega) (by omega) h_p0k h_p0kt) (inTok_o h_p0k) rfl (good_V ml_X4_77 im_X7_number se_X7_number ini_X7 co_X7_number) (by decide +kernel) ⟨Nat.zero_le _, Nat.zero_le _⟩ hl.1 (Nat.le_of_ble_eq_true rfl) rfl rfl dX4_readField_88 (fun r H locs hp hW hS => ?_)
          subst hp
          refine lv_istore (lv' := [(4, .int (f_X7_number z16_1 z16_2 z16_3 p0kt_0)), (3, .int (f_X0_usedBits (bw (bw p0b_0 4 (p0b_0 0 1).toNatClampNeg ((p0b_0 0 0) - (1 : Int32))) 5 (p0b_0 0 1).toNatClampNeg (f_X7_kind z9_1 z9_2 z9_3 p0kt_0)) ((p0b_0 0 0) - (1 : Int32)))), (2, .int ((p0b_0 0 0) - (1 : Int32))), (1, .int (p0b_0 0 1)), (0, .ref p0)]) hx hb dX4_readField_91 hl (by decide) rfl (fun ls hl => ?_)
          refine lv_iload_n hx hb dX4_readField_93 rfl (lv_at hl 1 rfl) ?_
          refine lv_iload hx hb dX4_readField_94 (lv_at hl 0 rfl) ?_
          refine lv_ishr hx hb dX4_readField_96 ?_
          refine lv_iconst (v := (1 : Int32)) hx hb dX4_readField_97 (by decide) ?_
          refine lv_iand hx hb dX4_readField_98 ?_
          refine lv_if_ne (tgt := 113) hx hb dX4_readField_99 (by decide) (fun c_19 => ?_) (fun c_19 => ?_)
          · rw [if_neg c_19] at hR
            have i_19 := rne c_19
            refine lv_iconst (v := (0 : Int32)) hx hb dX4_readField_113 (by decide) ?_
            subst hR
            exact W.zret (v := (0 : Int32)) hx hb hr (nb01 (Or.inl rfl)) (fun t ht hW9 => ⟨⟨(0 : Int32), Ω_16, rfl, ⟨rfl, (Or.inl rfl), h_p0k, h_p0b, hE⟩, by rw [oB, ht]; exact hW⟩, hS.F ht⟩) hS.2.2 dX4_readField_114
          · rw [if_pos c_19] at hR
            have i_19 := congrArg Int32.toInt c_19
            refine lv_aload_n hx hb dX4_readField_102 rfl (lv_at hl 4 rfl) ?_
            refine lv_iload hx hb dX4_readField_103 (lv_at hl 0 rfl) ?_
            refine lv_bipush (v := (7 : Int32)) hx hb dX4_readField_105 (by decide) ?_
            refine o_Vi (rest := []) (As := [.int (f_X7_number z16_1 z16_2 z16_3 p0kt_0), .int (7 : Int32)]) (n := 2) hx hb hml hown hts hK hN hZ hW hS hA (c_X4_takeNumber l G A Ω_16 p0 p0k p0kt p0b z16_1 z16_2 z16_3 p0kt_0 p0kt_1 (f_X7_number z16_1 z16_2 z16_3 p0kt_0) (7 : Int32) (by omega) (by omega) (by omega) (by omega) (by omega) (by omega) (by omega) (by omega) h_p0 h_p0k h_p0kt) (inPar_o h_p0) rfl (good_V ml_X4_69 im_X4_takeNumber se_X4_takeNumber ini_X4 co_X4_takeNumber) (by decide +kernel) ⟨Nat.zero_le _, Nat.zero_le _⟩ hl.1 (Nat.le_of_ble_eq_true rfl) rfl rfl dX4_readField_107 (fun r Ω_20 H locs hp hW hS => ?_)
            obtain ⟨rfl, hz_20, h_p0k, hF_20⟩ := hp
            have h_p0 := h_p0.keep (fun q h1 h2 => hF_20 q (by omega))
            have h_p0kt := h_p0kt.keep (fun q h1 h2 => hF_20 q (by omega))
            have h_p0b := h_p0b.keep (fun q h1 h2 => hF_20 q (by omega))
            have hE : ∀ q : Nat, (q < p0k ∨ p0k + 1 ≤ q) → (q < p0b ∨ p0b + 13 ≤ q) → Ω_20 q = Ω q := fun q g0 g1 => (hF_20 q (by omega)).trans (hE q g0 g1)
            have qt_20 : 0 ≤ (f_X4_takeNumber z16_2 p0kt_0 p0kt_1 (f_X7_number z16_1 z16_2 z16_3 p0kt_0) (7 : Int32)).2.1.toInt ∧ (f_X4_takeNumber z16_2 p0kt_0 p0kt_1 (f_X7_number z16_1 z16_2 z16_3 p0kt_0) (7 : Int32)).2.1.toInt ≤ (f_X4_takeNumber z16_2 p0kt_0 p0kt_1 (f_X7_number z16_1 z16_2 z16_3 p0kt_0) (7 : Int32)).2.2.1.toInt ∧ (f_X4_takeNumber z16_2 p0kt_0 p0kt_1 (f_X7_number z16_1 z16_2 z16_3 p0kt_0) (7 : Int32)).2.2.1.toInt ≤ p0kt_1.toInt := (R_takeNumber hT_p0kt (by omega)).1
            have qn_20 : (f_X4_takeNumber z16_2 p0kt_0 p0kt_1 (f_X7_number z16_1 z16_2 z16_3 p0kt_0) (7 : Int32)).1.toInt = 0 ∨ ((f_X7_number z16_1 z16_2 z16_3 p0kt_0).toInt ≤ (f_X7_number (f_X4_takeNumber z16_2 p0kt_0 p0kt_1 (f_X7_number z16_1 z16_2 z16_3 p0kt_0) (7 : Int32)).2.1 (f_X4_takeNumber z16_2 p0kt_0 p0kt_1 (f_X7_number z16_1 z16_2 z16_3 p0kt_0) (7 : Int32)).2.2.1 (f_X4_takeNumber z16_2 p0kt_0 p0kt_1 (f_X7_number z16_1 z16_2 z16_3 p0kt_0) (7 : Int32)).2.2.2 p0kt_0).toInt ∧ (f_X7_number (f_X4_takeNumber z16_2 p0kt_0 p0kt_1 (f_X7_number z16_1 z16_2 z16_3 p0kt_0) (7 : Int32)).2.1 (f_X4_takeNumber z16_2 p0kt_0 p0kt_1 (f_X7_number z16_1 z16_2 z16_3 p0kt_0) (7 : Int32)).2.2.1 (f_X4_takeNumber z16_2 p0kt_0 p0kt_1 (f_X7_number z16_1 z16_2 z16_3 p0kt_0) (7 : Int32)).2.2.2 p0kt_0).toInt ≤ (7 : Int32).toInt) := (R_takeNumber hT_p0kt (by omega)).2
            generalize (f_X4_takeNumber z16_2 p0kt_0 p0kt_1 (f_X7_number z16_1 z16_2 z16_3 p0kt_0) (7 : Int32)) = Z_20 at h_p0k hR qt_20 qn_20 hz_20 ⊢
            obtain ⟨z20_0, z20_1, z20_2, z20_3⟩ := Z_20
            dsimp only at h_p0k hR qt_20 qn_20 hz_20 ⊢
            rw [f_X4_readField_C110] at hR
            refine lv_if_ne (tgt := 115) hx hb dX4_readField_110 (by decide) (fun c_21 => ?_) (fun c_21 => ?_)
            · rw [if_neg c_21] at hR
              have i_21 := rne c_21
              refine lv_aload_n hx hb dX4_readField_115 rfl (lv_at hl 4 rfl) ?_
              refine o_get hx hb hts hown hK hW (inPar_o h_p0) rfl ig4 0 (by decide) fl_X4_23 rfl dX4_readField_116 ?_
              refine o_ViR (rest := []) (As := []) (n := 0) hx hb hml hown hts hK hN hZ hW hS hA (c_X7_number l G A Ω_20 p0k p0kt z20_1 z20_2 z20_3 p0kt_0 p0kt_1 (by omega) (by omega) h_p0k h_p0kt) (inTok_o h_p0k) rfl (good_V ml_X4_77 im_X7_number se_X7_number ini_X7 co_X7_number) (by decide +kernel) ⟨Nat.zero_le _, Nat.zero_le _⟩ hl.1 (Nat.le_of_ble_eq_true rfl) rfl rfl dX4_readField_119 (fun r H locs hp hW hS => ?_)
              subst hp
              refine lv_istore (lv' := [(5, .int (f_X7_number z20_1 z20_2 z20_3 p0kt_0)), (4, .int (f_X7_number z16_1 z16_2 z16_3 p0kt_0)), (3, .int (f_X0_usedBits (bw (bw p0b_0 4 (p0b_0 0 1).toNatClampNeg ((p0b_0 0 0) - (1 : Int32))) 5 (p0b_0 0 1).toNatClampNeg (f_X7_kind z9_1 z9_2 z9_3 p0kt_0)) ((p0b_0 0 0) - (1 : Int32)))), (2, .int ((p0b_0 0 0) - (1 : Int32))), (1, .int (p0b_0 0 1)), (0, .ref p0)]) hx hb dX4_readField_122 hl (by decide) rfl (fun ls hl => ?_)
              refine lv_iconst (v := (2 : Int32)) hx hb dX4_readField_124 (by decide) ?_
              refine lv_iload hx hb dX4_readField_125 (lv_at hl 0 rfl) ?_
              refine lv_ishl hx hb dX4_readField_127 ?_
              refine lv_iconst (v := (1 : Int32)) hx hb dX4_readField_128 (by decide) ?_
              refine lv_iload hx hb dX4_readField_129 (lv_at hl 1 rfl) ?_
              refine lv_ishl hx hb dX4_readField_131 ?_
              refine lv_isub hx hb dX4_readField_132 ?_
              refine lv_istore (lv' := [(6, .int (((2 : Int32) <<< ((f_X7_number z20_1 z20_2 z20_3 p0kt_0) &&& 31)) - ((1 : Int32) <<< ((f_X7_number z16_1 z16_2 z16_3 p0kt_0) &&& 31)))), (5, .int (f_X7_number z20_1 z20_2 z20_3 p0kt_0)), (4, .int (f_X7_number z16_1 z16_2 z16_3 p0kt_0)), (3, .int (f_X0_usedBits (bw (bw p0b_0 4 (p0b_0 0 1).toNatClampNeg ((p0b_0 0 0) - (1 : Int32))) 5 (p0b_0 0 1).toNatClampNeg (f_X7_kind z9_1 z9_2 z9_3 p0kt_0)) ((p0b_0 0 0) - (1 : Int32)))), (2, .int ((p0b_0 0 0) - (1 : Int32))), (1, .int (p0b_0 0 1)), (0, .ref p0)]) hx hb dX4_readField_133 hl (by decide) rfl (fun ls hl => ?_)
              refine lv_iload_n hx hb dX4_readField_135 rfl (lv_at hl 3 rfl) ?_
              refine lv_iload hx hb dX4_readField_136 (lv_at hl 0 rfl) ?_
              refine lv_iand hx hb dX4_readField_138 ?_
              refine lv_if_ne (tgt := 155) hx hb dX4_readField_139 (by decide) (fun c_23 => ?_) (fun c_23 => ?_)
              · rw [if_neg c_23] at hR
                have i_23 := rne c_23
                refine lv_iconst (v := (0 : Int32)) hx hb dX4_readField_155 (by decide) ?_
                subst hR
                exact W.zret (v := (0 : Int32)) hx hb hr (nb01 (Or.inl rfl)) (fun t ht hW9 => ⟨⟨(0 : Int32), Ω_20, rfl, ⟨rfl, (Or.inl rfl), h_p0k, h_p0b, hE⟩, by rw [oB, ht]; exact hW⟩, hS.F ht⟩) hS.2.2 dX4_readField_156
              · rw [if_pos c_23] at hR
                have i_23 := congrArg Int32.toInt c_23
                refine lv_aload_n hx hb dX4_readField_142 rfl (lv_at hl 6 rfl) ?_
                refine lv_iconst (v := (0 : Int32)) hx hb dX4_readField_143 (by decide) ?_
                refine lv_iload hx hb dX4_readField_144 (lv_at hl 0 rfl) ?_
                refine lv_iload hx hb dX4_readField_146 (lv_at hl 2 rfl) ?_
                refine lv_ishr hx hb dX4_readField_148 ?_
                refine o_Vi (rest := []) (As := [.int (0 : Int32), .int ((((2 : Int32) <<< ((f_X7_number z20_1 z20_2 z20_3 p0kt_0) &&& 31)) - ((1 : Int32) <<< ((f_X7_number z16_1 z16_2 z16_3 p0kt_0) &&& 31))) >>> ((f_X7_number z16_1 z16_2 z16_3 p0kt_0) &&& 31))]) (n := 2) hx hb hml hown hts hK hN hZ hW hS hA (c_X4_takeNumber l G A Ω_20 p0 p0k p0kt p0b z20_1 z20_2 z20_3 p0kt_0 p0kt_1 (0 : Int32) ((((2 : Int32) <<< ((f_X7_number z20_1 z20_2 z20_3 p0kt_0) &&& 31)) - ((1 : Int32) <<< ((f_X7_number z16_1 z16_2 z16_3 p0kt_0) &&& 31))) >>> ((f_X7_number z16_1 z16_2 z16_3 p0kt_0) &&& 31)) (by omega) (by omega) (by omega) (by omega) (by omega) (by omega) (by omega) (by omega) h_p0 h_p0k h_p0kt) (inPar_o h_p0) rfl (good_V ml_X4_69 im_X4_takeNumber se_X4_takeNumber ini_X4 co_X4_takeNumber) (by decide +kernel) ⟨Nat.zero_le _, Nat.zero_le _⟩ hl.1 (Nat.le_of_ble_eq_true rfl) rfl rfl dX4_readField_149 (fun r Ω_24 H locs hp hW hS => ?_)
                obtain ⟨rfl, hz_24, h_p0k, hF_24⟩ := hp
                have h_p0 := h_p0.keep (fun q h1 h2 => hF_24 q (by omega))
                have h_p0kt := h_p0kt.keep (fun q h1 h2 => hF_24 q (by omega))
                have h_p0b := h_p0b.keep (fun q h1 h2 => hF_24 q (by omega))
                have hE : ∀ q : Nat, (q < p0k ∨ p0k + 1 ≤ q) → (q < p0b ∨ p0b + 13 ≤ q) → Ω_24 q = Ω q := fun q g0 g1 => (hF_24 q (by omega)).trans (hE q g0 g1)
                have qt_24 : 0 ≤ (f_X4_takeNumber z20_2 p0kt_0 p0kt_1 (0 : Int32) ((((2 : Int32) <<< ((f_X7_number z20_1 z20_2 z20_3 p0kt_0) &&& 31)) - ((1 : Int32) <<< ((f_X7_number z16_1 z16_2 z16_3 p0kt_0) &&& 31))) >>> ((f_X7_number z16_1 z16_2 z16_3 p0kt_0) &&& 31))).2.1.toInt ∧ (f_X4_takeNumber z20_2 p0kt_0 p0kt_1 (0 : Int32) ((((2 : Int32) <<< ((f_X7_number z20_1 z20_2 z20_3 p0kt_0) &&& 31)) - ((1 : Int32) <<< ((f_X7_number z16_1 z16_2 z16_3 p0kt_0) &&& 31))) >>> ((f_X7_number z16_1 z16_2 z16_3 p0kt_0) &&& 31))).2.1.toInt ≤ (f_X4_takeNumber z20_2 p0kt_0 p0kt_1 (0 : Int32) ((((2 : Int32) <<< ((f_X7_number z20_1 z20_2 z20_3 p0kt_0) &&& 31)) - ((1 : Int32) <<< ((f_X7_number z16_1 z16_2 z16_3 p0kt_0) &&& 31))) >>> ((f_X7_number z16_1 z16_2 z16_3 p0kt_0) &&& 31))).2.2.1.toInt ∧ (f_X4_takeNumber z20_2 p0kt_0 p0kt_1 (0 : Int32) ((((2 : Int32) <<< ((f_X7_number z20_1 z20_2 z20_3 p0kt_0) &&& 31)) - ((1 : Int32) <<< ((f_X7_number z16_1 z16_2 z16_3 p0kt_0) &&& 31))) >>> ((f_X7_number z16_1 z16_2 z16_3 p0kt_0) &&& 31))).2.2.1.toInt ≤ p0kt_1.toInt := (R_takeNumber hT_p0kt (by omega)).1
                have qn_24 : (f_X4_takeNumber z20_2 p0kt_0 p0kt_1 (0 : Int32) ((((2 : Int32) <<< ((f_X7_number z20_1 z20_2 z20_3 p0kt_0) &&& 31)) - ((1 : Int32) <<< ((f_X7_number z16_1 z16_2 z16_3 p0kt_0) &&& 31))) >>> ((f_X7_number z16_1 z16_2 z16_3 p0kt_0) &&& 31))).1.toInt = 0 ∨ ((0 : Int32).toInt ≤ (f_X7_number (f_X4_takeNumber z20_2 p0kt_0 p0kt_1 (0 : Int32) ((((2 : Int32) <<< ((f_X7_number z20_1 z20_2 z20_3 p0kt_0) &&& 31)) - ((1 : Int32) <<< ((f_X7_number z16_1 z16_2 z16_3 p0kt_0) &&& 31))) >>> ((f_X7_number z16_1 z16_2 z16_3 p0kt_0) &&& 31))).2.1 (f_X4_takeNumber z20_2 p0kt_0 p0kt_1 (0 : Int32) ((((2 : Int32) <<< ((f_X7_number z20_1 z20_2 z20_3 p0kt_0) &&& 31)) - ((1 : Int32) <<< ((f_X7_number z16_1 z16_2 z16_3 p0kt_0) &&& 31))) >>> ((f_X7_number z16_1 z16_2 z16_3 p0kt_0) &&& 31))).2.2.1 (f_X4_takeNumber z20_2 p0kt_0 p0kt_1 (0 : Int32) ((((2 : Int32) <<< ((f_X7_number z20_1 z20_2 z20_3 p0kt_0) &&& 31)) - ((1 : Int32) <<< ((f_X7_number z16_1 z16_2 z16_3 p0kt_0) &&& 31))) >>> ((f_X7_number z16_1 z16_2 z16_3 p0kt_0) &&& 31))).2.2.2 p0kt_0).toInt ∧ (f_X7_number (f_X4_takeNumber z20_2 p0kt_0 p0kt_1 (0 : Int32) ((((2 : Int32) <<< ((f_X7_number z20_1 z20_2 z20_3 p0kt_0) &&& 31)) - ((1 : Int32) <<< ((f_X7_number z16_1 z16_2 z16_3 p0kt_0) &&& 31))) >>> ((f_X7_number z16_1 z16_2 z16_3 p0kt_0) &&& 31))).2.1 (f_X4_takeNumber z20_2 p0kt_0 p0kt_1 (0 : Int32) ((((2 : Int32) <<< ((f_X7_number z20_1 z20_2 z20_3 p0kt_0) &&& 31)) - ((1 : Int32) <<< ((f_X7_number z16_1 z16_2 z16_3 p0kt_0) &&& 31))) >>> ((f_X7_number z16_1 z16_2 z16_3 p0kt_0) &&& 31))).2.2.1 (f_X4_takeNumber z20_2 p0kt_0 p0kt_1 (0 : Int32) ((((2 : Int32) <<< ((f_X7_number z20_1 z20_2 z20_3 p0kt_0) &&& 31)) - ((1 : Int32) <<< ((f_X7_number z16_1 z16_2 z16_3 p0kt_0) &&& 31))) >>> ((f_X7_number z16_1 z16_2 z16_3 p0kt_0) &&& 31))).2.2.2 p0kt_0).toInt ≤ ((((2 : Int32) <<< ((f_X7_number z20_1 z20_2 z20_3 p0kt_0) &&& 31)) - ((1 : Int32) <<< ((f_X7_number z16_1 z16_2 z16_3 p0kt_0) &&& 31))) >>> ((f_X7_number z16_1 z16_2 z16_3 p0kt_0) &&& 31)).toInt) := (R_takeNumber hT_p0kt (by omega)).2
                generalize (f_X4_takeNumber z20_2 p0kt_0 p0kt_1 (0 : Int32) ((((2 : Int32) <<< ((f_X7_number z20_1 z20_2 z20_3 p0kt_0) &&& 31)) - ((1 : Int32) <<< ((f_X7_number z16_1 z16_2 z16_3 p0kt_0) &&& 31))) >>> ((f_X7_number z16_1 z16_2 z16_3 p0kt_0) &&& 31))) = Z_24 at h_p0k hR qt_24 qn_24 hz_24 ⊢
                obtain ⟨z24_0, z24_1, z24_2, z24_3⟩ := Z_24
                dsimp only at h_p0k hR qt_24 qn_24 hz_24 ⊢
                rw [f_X4_readField_C152] at hR
                refine lv_if_ne (tgt := 157) hx hb dX4_readField_152 (by decide) (fun c_25 => ?_) (fun c_25 => ?_)
                · rw [if_neg c_25] at hR
                  have i_25 := rne c_25
                  refine lv_aload_n hx hb dX4_readField_157 rfl (lv_at hl 6 rfl) ?_
                  refine o_get hx hb hts hown hK hW (inPar_o h_p0) rfl ig4 1 (by decide) fl_X4_12 rfl dX4_readField_158 ?_
                  refine o_get hx hb hts hown hK hW (inBlk_o h_p0b) rfl ig0 8 (by decide) fl_X4_107 rfl dX4_readField_161 ?_
                  refine lv_iload_n hx hb dX4_readField_164 rfl (lv_at hl 5 rfl) ?_
                  refine lv_iload hx hb dX4_readField_165 (lv_at hl 2 rfl) ?_
                  refine wBlk_5 hx hb hK hW hS hA h_p0b (vp_in_iff.mpr ⟨by omega, by omega⟩) dX4_readField_167 (fun Ω_26 H locs h_p0b hF_26 hW hS => ?_)
                  have h_p0 := h_p0.keep (fun q h1 h2 => hF_26 q (by omega))
                  have h_p0k := h_p0k.keep (fun q h1 h2 => hF_26 q (by omega))
                  have h_p0kt := h_p0kt.keep (fun q h1 h2 => hF_26 q (by omega))
                  have hE : ∀ q : Nat, (q < p0k ∨ p0k + 1 ≤ q) → (q < p0b ∨ p0b + 13 ≤ q) → Ω_26 q = Ω q := fun q g0 g1 => (hF_26 q (by omega)).trans (hE q g0 g1)
                  refine lv_aload_n hx hb dX4_readField_168 rfl (lv_at hl 6 rfl) ?_
                  refine o_get hx hb hts hown hK hW (inPar_o h_p0) rfl ig4 1 (by decide) fl_X4_12 rfl dX4_readField_169 ?_
                  refine o_get hx hb hts hown hK hW (inBlk_o h_p0b) rfl ig0 9 (by decide) fl_X4_110 rfl dX4_readField_172 ?_
                  refine lv_iload_n hx hb dX4_readField_175 rfl (lv_at hl 5 rfl) ?_
                  refine lv_iload hx hb dX4_readField_176 (lv_at hl 1 rfl) ?_
                  refine wBlk_6 hx hb hK hW hS hA h_p0b (vp_in_iff.mpr ⟨by omega, by omega⟩) dX4_readField_178 (fun Ω_27 H locs h_p0b hF_27 hW hS => ?_)
                  have h_p0 := h_p0.keep (fun q h1 h2 => hF_27 q (by omega))
                  have h_p0k := h_p0k.keep (fun q h1 h2 => hF_27 q (by omega))
                  have h_p0kt := h_p0kt.keep (fun q h1 h2 => hF_27 q (by omega))
                  have hE : ∀ q : Nat, (q < p0k ∨ p0k + 1 ≤ q) → (q < p0b ∨ p0b + 13 ≤ q) → Ω_27 q = Ω q := fun q g0 g1 => (hF_27 q (by omega)).trans (hE q g0 g1)
                  refine lv_aload_n hx hb dX4_readField_179 rfl (lv_at hl 6 rfl) ?_
                  refine o_get hx hb hts hown hK hW (inPar_o h_p0) rfl ig4 1 (by decide) fl_X4_12 rfl dX4_readField_180 ?_
                  refine o_get hx hb hts hown hK hW (inBlk_o h_p0b) rfl ig0 10 (by decide) fl_X4_113 rfl dX4_readField_183 ?_
                  refine lv_iload_n hx hb dX4_readField_186 rfl (lv_at hl 5 rfl) ?_
                  refine lv_iload hx hb dX4_readField_187 (lv_at hl 0 rfl) ?_
                  refine wBlk_7 hx hb hK hW hS hA h_p0b (vp_in_iff.mpr ⟨by omega, by omega⟩) dX4_readField_189 (fun Ω_28 H locs h_p0b hF_28 hW hS => ?_)
                  have h_p0 := h_p0.keep (fun q h1 h2 => hF_28 q (by omega))
                  have h_p0k := h_p0k.keep (fun q h1 h2 => hF_28 q (by omega))
                  have h_p0kt := h_p0kt.keep (fun q h1 h2 => hF_28 q (by omega))
                  have hE : ∀ q : Nat, (q < p0k ∨ p0k + 1 ≤ q) → (q < p0b ∨ p0b + 13 ≤ q) → Ω_28 q = Ω q := fun q g0 g1 => (hF_28 q (by omega)).trans (hE q g0 g1)
                  refine lv_aload_n hx hb dX4_readField_190 rfl (lv_at hl 6 rfl) ?_
                  refine o_get hx hb hts hown hK hW (inPar_o h_p0) rfl ig4 1 (by decide) fl_X4_12 rfl dX4_readField_191 ?_
                  refine o_get hx hb hts hown hK hW (inBlk_o h_p0b) rfl ig0 11 (by decide) fl_X4_116 rfl dX4_readField_194 ?_
                  refine lv_iload_n hx hb dX4_readField_197 rfl (lv_at hl 5 rfl) ?_
                  refine lv_aload_n hx hb dX4_readField_198 rfl (lv_at hl 6 rfl) ?_
                  refine o_get hx hb hts hown hK hW (inPar_o h_p0) rfl ig4 0 (by decide) fl_X4_23 rfl dX4_readField_199 ?_
                  refine o_ViR (rest := [.int (p0b_0 0 1), .ref (p0b + 9)]) (As := []) (n := 0) hx hb hml hown hts hK hN hZ hW hS hA (c_X7_number l G A Ω_28 p0k p0kt z24_1 z24_2 z24_3 p0kt_0 p0kt_1 (by omega) (by omega) h_p0k h_p0kt) (inTok_o h_p0k) rfl (good_V ml_X4_77 im_X7_number se_X7_number ini_X7 co_X7_number) (by decide +kernel) ⟨Nat.zero_le _, Nat.zero_le _⟩ hl.1 (Nat.le_of_ble_eq_true rfl) rfl rfl dX4_readField_202 (fun r H locs hp hW hS => ?_)
                  subst hp
                  refine wBlk_8 hx hb hK hW hS hA h_p0b (vp_in_iff.mpr ⟨by omega, by omega⟩) dX4_readField_205 (fun Ω_30 H locs h_p0b hF_30 hW hS => ?_)
                  have h_p0 := h_p0.keep (fun q h1 h2 => hF_30 q (by omega))
                  have h_p0k := h_p0k.keep (fun q h1 h2 => hF_30 q (by omega))
                  have h_p0kt := h_p0kt.keep (fun q h1 h2 => hF_30 q (by omega))
                  have hE : ∀ q : Nat, (q < p0k ∨ p0k + 1 ≤ q) → (q < p0b ∨ p0b + 13 ≤ q) → Ω_30 q = Ω q := fun q g0 g1 => (hF_30 q (by omega)).trans (hE q g0 g1)
                  refine lv_aload_n hx hb dX4_readField_206 rfl (lv_at hl 6 rfl) ?_
                  refine o_get hx hb hts hown hK hW (inPar_o h_p0) rfl ig4 1 (by decide) fl_X4_12 rfl dX4_readField_207 ?_
                  refine lv_dup hx hb dX4_readField_210 rfl ?_
                  refine o_get hx hb hts hown hK hW (inBlk_o h_p0b) rfl ig0 1 (by decide) fl_X4_89 rfl dX4_readField_211 ?_
                  refine lv_iconst (v := (1 : Int32)) hx hb dX4_readField_214 (by decide) ?_
                  refine lv_iadd hx hb dX4_readField_215 ?_
                  refine vBlk_1 hx hb hts hown hK hW hS hA h_p0b fl_X4_89 dX4_readField_216 (fun Ω_31 H locs h_p0b hF_31 hW hS => ?_)
                  have h_p0 := h_p0.keep (fun q h1 h2 => hF_31 q (by omega))
                  have h_p0k := h_p0k.keep (fun q h1 h2 => hF_31 q (by omega))
                  have h_p0kt := h_p0kt.keep (fun q h1 h2 => hF_31 q (by omega))
                  have hE : ∀ q : Nat, (q < p0k ∨ p0k + 1 ≤ q) → (q < p0b ∨ p0b + 13 ≤ q) → Ω_31 q = Ω q := fun q g0 g1 => (hF_31 q (by omega)).trans (hE q g0 g1)
                  refine lv_aload_n hx hb dX4_readField_219 rfl (lv_at hl 6 rfl) ?_
                  refine o_Vi (rest := []) (As := []) (n := 0) hx hb hml hown hts hK hN hZ hW hS hA (c_X4_takeSemicolon l G A Ω_31 p0 p0k p0kt p0b z24_1 z24_2 z24_3 p0kt_0 p0kt_1 (by omega) (by omega) (by omega) (by omega) (by omega) (by omega) (by omega) (by omega) h_p0 h_p0k h_p0kt) (inPar_o h_p0) rfl (good_V ml_X4_86 im_X4_takeSemicolon se_X4_takeSemicolon ini_X4 co_X4_takeSemicolon) (by decide +kernel) ⟨Nat.zero_le _, Nat.zero_le _⟩ hl.1 (Nat.le_of_ble_eq_true rfl) rfl rfl dX4_readField_220 (fun r Ω_32 H locs hp hW hS => ?_)
                  obtain ⟨rfl, hz_32, h_p0k, hF_32⟩ := hp
                  have h_p0 := h_p0.keep (fun q h1 h2 => hF_32 q (by omega))
                  have h_p0kt := h_p0kt.keep (fun q h1 h2 => hF_32 q (by omega))
                  have h_p0b := h_p0b.keep (fun q h1 h2 => hF_32 q (by omega))
                  have hE : ∀ q : Nat, (q < p0k ∨ p0k + 1 ≤ q) → (q < p0b ∨ p0b + 13 ≤ q) → Ω_32 q = Ω q := fun q g0 g1 => (hF_32 q (by omega)).trans (hE q g0 g1)
                  have qt_32 : 0 ≤ (f_X4_takeSemicolon z24_2 p0kt_0 p0kt_1).2.1.toInt ∧ (f_X4_takeSemicolon z24_2 p0kt_0 p0kt_1).2.1.toInt ≤ (f_X4_takeSemicolon z24_2 p0kt_0 p0kt_1).2.2.1.toInt ∧ (f_X4_takeSemicolon z24_2 p0kt_0 p0kt_1).2.2.1.toInt ≤ p0kt_1.toInt := R_takeSemicolon hT_p0kt (by omega)
                  generalize (f_X4_takeSemicolon z24_2 p0kt_0 p0kt_1) = Z_32 at h_p0k hR qt_32 hz_32 ⊢
                  obtain ⟨z32_0, z32_1, z32_2, z32_3⟩ := Z_32
                  dsimp only at h_p0k hR qt_32 hz_32 ⊢
                  rw [f_X4_readField_C223] at hR
                  subst hR
                  exact W.zret (v := z32_0) hx hb hr (nb01 hz_32) (fun t ht hW9 => ⟨⟨z32_0, Ω_32, rfl, ⟨rfl, hz_32, h_p0k, h_p0b, hE⟩, by rw [oB, ht]; exact hW⟩, hS.F ht⟩) hS.2.2 dX4_readField_223
                · rw [if_pos c_25] at hR
                  have i_25 := congrArg Int32.toInt c_25
                  refine lv_iconst (v := (0 : Int32)) hx hb dX4_readField_155 (by decide) ?_
                  subst hR
                  exact W.zret (v := (0 : Int32)) hx hb hr (nb01 (Or.inl rfl)) (fun t ht hW9 => ⟨⟨(0 : Int32), Ω_24, rfl, ⟨rfl, (Or.inl rfl), h_p0k, h_p0b, hE⟩, by rw [oB, ht]; exact hW⟩, hS.F ht⟩) hS.2.2 dX4_readField_156
            · rw [if_pos c_21] at hR
              have i_21 := congrArg Int32.toInt c_21
              refine lv_iconst (v := (0 : Int32)) hx hb dX4_readField_113 (by decide) ?_
              subst hR
              exact W.zret (v := (0 : Int32)) hx hb hr (nb01 (Or.inl rfl)) (fun t ht hW9 => ⟨⟨(0 : Int32), Ω_20, rfl, ⟨rfl, (Or.inl rfl), h_p0k, h_p0b, hE⟩, by rw [oB, ht]; exact hW⟩, hS.F ht⟩) hS.2.2 dX4_readField_114
        · rw [if_pos c_17] at hR
          have i_17 := congrArg Int32.toInt c_17
          refine lv_iconst (v := (0 : Int32)) hx hb dX4_readField_82 (by decide) ?_
          subst hR
          exact W.zret (v := (0 : Int32)) hx hb hr (nb01 (Or.inl rfl)) (fun t ht hW9 => ⟨⟨(0 : Int32), Ω_16, rfl, ⟨rfl, (Or.inl rfl), h_p0k, h_p0b, hE⟩, by rw [oB, ht]; exact hW⟩, hS.F ht⟩) hS.2.2 dX4_readField_83
      · rw [if_pos c_10] at hR
        have i_10 := congrArg Int32.toInt c_10
        refine lv_iconst (v := (0 : Int32)) hx hb dX4_readField_35 (by decide) ?_
        subst hR
        exact W.zret (v := (0 : Int32)) hx hb hr (nb01 (Or.inl rfl)) (fun t ht hW9 => ⟨⟨(0 : Int32), Ω_9, rfl, ⟨rfl, (Or.inl rfl), h_p0k, h_p0b, hE⟩, by rw [oB, ht]; exact hW⟩, hS.F ht⟩) hS.2.2 dX4_readField_36
set_option maxHeartbeats 4000000 in
set_option maxRecDepth 100000 in
theorem c_X4_suitsAlias (l : Launch) (G : Gm) (A : Nat → Prop) (Ω : Om) (x0 : Int32) : Met l yX4_suitsAlias (wz yX4_suitsAlias cX4_suitsAlias 1 (some .boolean)) ({ frames := 0, cells := 0, slots := 0, locals := 0 } : Room) (va_Pc [.int x0] (oS G A Ω)) (va_Qi (fun (r : Int32) (Ω1 : Om) => (r = (f_X4_suitsAlias x0) ∧ (r = 0 ∨ r = 1)) ∧ Ω1 = Ω) (oB G A) A) 0 0 A := by
  refine Met.ofW (cc := cX4_suitsAlias) (maxL := 1) (ret := (some .boolean)) (by decide) rfl ?_
  intro p e s m args below meth c s₁ B hml hv
  obtain ⟨rfl, hW, hK, hN, hZ⟩ := hv
  have hx := B.exec
  have hb := B.bytes
  have hr := B.returns
  have hts : ∀ w ∈ gt, w.before _ s = true := fun w hw => atoms_spec (ws := wz yX4_suitsAlias cX4_suitsAlias 1 (some .boolean)) B.pre w (List.mem_cons_of_mem _ hw)
  have hown : s.vm.findClass RX4 = some m.cls := findClass_of_methodNamed B.named
  have hlocks := B.notSynchronized
  have hA : ∀ q, A q → A q := fun _ h => h
  have hS : va_S A s.heap s.heap [] := va_S.rf
  have hS0 := hS
  have hl := lv_entry ([.int x0]) (n := 1) (Nat.le_of_ble_eq_true rfl)
  rw [lg_entry_eq]
  generalize (lg_sl ([.int x0]) ++ List.replicate (1 - (lg_sl ([.int x0])).length) Slot.unset).toArray = ls at hl ⊢
  have hl : lv_has ls 1 [(0, .int x0)] := hl
  generalize hR : (f_X4_suitsAlias x0) = R
  rw [f_X4_suitsAlias] at hR
  refine lv_iload_n hx hb dX4_suitsAlias_0 rfl (lv_at hl 0 rfl) ?_
  have j_2 : (0 : Int32).toInt = 0 := by decide
  refine lv_if_eq (tgt := 24) hx hb dX4_suitsAlias_1 (by decide) (fun c_1 => ?_) (fun c_1 => ?_)
  · rw [if_pos c_1] at hR
    have i_1 := congrArg Int32.toInt c_1
    refine lv_iconst (v := (1 : Int32)) hx hb dX4_suitsAlias_24 (by decide) ?_
    refine lv_goto (tgt := 29) hx hb dX4_suitsAlias_25 (by decide) ?_
    subst hR
    exact W.zret (v := (1 : Int32)) hx hb hr (nb01 (Or.inr rfl)) (fun t ht hW9 => ⟨⟨(1 : Int32), Ω, rfl, ⟨⟨rfl, (Or.inr rfl)⟩, rfl⟩, by rw [oB, ht]; exact hW⟩, hS.F ht⟩) hS.2.2 dX4_suitsAlias_29
  · rw [if_neg c_1] at hR
    have i_1 := rne c_1
    refine lv_iload_n hx hb dX4_suitsAlias_4 rfl (lv_at hl 0 rfl) ?_
    refine lv_iconst (v := (1 : Int32)) hx hb dX4_suitsAlias_5 (by decide) ?_
    have j_4 : (1 : Int32).toInt = 1 := by decide
    refine lv_icmp_eq (tgt := 24) hx hb dX4_suitsAlias_6 (by decide) (fun c_3 => ?_) (fun c_3 => ?_)
    · rw [if_pos c_3] at hR
      have i_3 := congrArg Int32.toInt c_3
      refine lv_iconst (v := (1 : Int32)) hx hb dX4_suitsAlias_24 (by decide) ?_
      refine lv_goto (tgt := 29) hx hb dX4_suitsAlias_25 (by decide) ?_
      subst hR
      exact W.zret (v := (1 : Int32)) hx hb hr (nb01 (Or.inr rfl)) (fun t ht hW9 => ⟨⟨(1 : Int32), Ω, rfl, ⟨⟨rfl, (Or.inr rfl)⟩, rfl⟩, by rw [oB, ht]; exact hW⟩, hS.F ht⟩) hS.2.2 dX4_suitsAlias_29
    · rw [if_neg c_3] at hR
      have i_3 := rne c_3
      refine lv_iload_n hx hb dX4_suitsAlias_9 rfl (lv_at hl 0 rfl) ?_
      refine lv_iconst (v := (3 : Int32)) hx hb dX4_suitsAlias_10 (by decide) ?_
      have j_6 : (3 : Int32).toInt = 3 := by decide
      refine lv_icmp_eq (tgt := 24) hx hb dX4_suitsAlias_11 (by decide) (fun c_5 => ?_) (fun c_5 => ?_)
      · rw [if_pos c_5] at hR
        have i_5 := congrArg Int32.toInt c_5
        refine lv_iconst (v := (1 : Int32)) hx hb dX4_suitsAlias_24 (by decide) ?_
        refine lv_goto (tgt := 29) hx hb dX4_suitsAlias_25 (by decide) ?_
        subst hR
        exact W.zret (v := (1 : Int32)) hx hb hr (nb01 (Or.inr rfl)) (fun t ht hW9 => ⟨⟨(1 : Int32), Ω, rfl, ⟨⟨rfl, (Or.inr rfl)⟩, rfl⟩, by rw [oB, ht]; exact hW⟩, hS.F ht⟩) hS.2.2 dX4_suitsAlias_29
      · rw [if_neg c_5] at hR
        have i_5 := rne c_5
        refine lv_iload_n hx hb dX4_suitsAlias_14 rfl (lv_at hl 0 rfl) ?_
        refine lv_iconst (v := (4 : Int32)) hx hb dX4_suitsAlias_15 (by decide) ?_
        have j_8 : (4 : Int32).toInt = 4 := by decide
        refine lv_icmp_eq (tgt := 24) hx hb dX4_suitsAlias_16 (by decide) (fun c_7 => ?_) (fun c_7 => ?_)
        · rw [if_pos c_7] at hR
          have i_7 := congrArg Int32.toInt c_7
          refine lv_iconst (v := (1 : Int32)) hx hb dX4_suitsAlias_24 (by decide) ?_
          refine lv_goto (tgt := 29) hx hb dX4_suitsAlias_25 (by decide) ?_
          subst hR
          exact W.zret (v := (1 : Int32)) hx hb hr (nb01 (Or.inr rfl)) (fun t ht hW9 => ⟨⟨(1 : Int32), Ω, rfl, ⟨⟨rfl, (Or.inr rfl)⟩, rfl⟩, by rw [oB, ht]; exact hW⟩, hS.F ht⟩) hS.2.2 dX4_suitsAlias_29
        · rw [if_neg c_7] at hR
          have i_7 := rne c_7
          refine lv_iload_n hx hb dX4_suitsAlias_19 rfl (lv_at hl 0 rfl) ?_
          refine lv_iconst (v := (5 : Int32)) hx hb dX4_suitsAlias_20 (by decide) ?_
          have j_10 : (5 : Int32).toInt = 5 := by decide
          refine lv_icmp_ne (tgt := 28) hx hb dX4_suitsAlias_21 (by decide) (fun c_9 => ?_) (fun c_9 => ?_)
          · rw [if_neg c_9] at hR
            have i_9 := rne c_9
            refine lv_iconst (v := (0 : Int32)) hx hb dX4_suitsAlias_28 (by decide) ?_
            subst hR
            exact W.zret (v := (0 : Int32)) hx hb hr (nb01 (Or.inl rfl)) (fun t ht hW9 => ⟨⟨(0 : Int32), Ω, rfl, ⟨⟨rfl, (Or.inl rfl)⟩, rfl⟩, by rw [oB, ht]; exact hW⟩, hS.F ht⟩) hS.2.2 dX4_suitsAlias_29
          · rw [if_pos c_9] at hR
            have i_9 := congrArg Int32.toInt c_9
            refine lv_iconst (v := (1 : Int32)) hx hb dX4_suitsAlias_24 (by decide) ?_
            refine lv_goto (tgt := 29) hx hb dX4_suitsAlias_25 (by decide) ?_
            subst hR
            exact W.zret (v := (1 : Int32)) hx hb hr (nb01 (Or.inr rfl)) (fun t ht hW9 => ⟨⟨(1 : Int32), Ω, rfl, ⟨⟨rfl, (Or.inr rfl)⟩, rfl⟩, by rw [oB, ht]; exact hW⟩, hS.F ht⟩) hS.2.2 dX4_suitsAlias_29
set_option maxHeartbeats 4000000 in
set_option maxRecDepth 100000 in
theorem c_X4_readAlias (l : Launch) (G : Gm) (A : Nat → Prop) (Ω : Om) (p0 : Nat) (p0k : Nat) (p0kt : Nat) (p0b : Nat) (p0k_0 : Int32) (p0k_1 : Int32) (p0k_2 : Int32) (p0kt_0 : Fn) (p0kt_1 : Int32) (p0b_0 : Blk) (hd_p0_p0k : p0 + 1 ≤ p0k ∨ p0k + 1 ≤ p0) (hd_p0_p0kt : p0 + 1 ≤ p0kt ∨ p0kt + 2 ≤ p0) (hd_p0_p0b : p0 + 1 ≤ p0b ∨ p0b + 13 ≤ p0) (hd_p0k_p0kt : p0k + 1 ≤ p0kt ∨ p0kt + 2 ≤ p0k) (hd_p0k_p0b : p0k + 1 ≤ p0b ∨ p0b + 13 ≤ p0k) (hd_p0kt_p0b : p0kt + 2 ≤ p0b ∨ p0b + 13 ≤ p0kt) (hT_p0kt : 0 ≤ p0kt_1.toInt ∧ p0kt_1.toInt ≤ 160) (hB_p0b : BlkInv p0b_0) (hk : 0 ≤ p0k_0.toInt ∧ p0k_0.toInt ≤ p0k_1.toInt ∧ p0k_1.toInt ≤ p0kt_1.toInt) (h_p0 : inPar G Ω p0 p0k p0b) (h_p0k : inTok G Ω p0k p0kt p0k_0 p0k_1 p0k_2) (h_p0kt : inTxt G Ω p0kt p0kt_0 p0kt_1) (h_p0b : inBlk G Ω p0b p0b_0) : Met l yX4_readAlias (wz yX4_readAlias cX4_readAlias 2 (some .boolean)) ({ frames := 3, cells := 0, slots := 0, locals := 64 } : Room) (va_Pc [.ref p0] (oS G A Ω)) (va_Qi (fun (r : Int32) (Ω1 : Om) => r = (f_X4_readAlias p0k_0 p0k_1 p0k_2 p0kt_0 p0kt_1 p0b_0).1 ∧ (r = 0 ∨ r = 1) ∧ inTok G Ω1 p0k p0kt ((f_X4_readAlias p0k_0 p0k_1 p0k_2 p0kt_0 p0kt_1 p0b_0).2.1) ((f_X4_readAlias p0k_0 p0k_1 p0k_2 p0kt_0 p0kt_1 p0b_0).2.2.1) ((f_X4_readAlias p0k_0 p0k_1 p0k_2 p0kt_0 p0kt_1 p0b_0).2.2.2.1) ∧ inBlk G Ω1 p0b ((f_X4_readAlias p0k_0 p0k_1 p0k_2 p0kt_0 p0kt_1 p0b_0).2.2.2.2) ∧ (∀ q : Nat, (q < p0k ∨ p0k + 1 ≤ q) → (q < p0b ∨ p0b + 13 ≤ q) → Ω1 q = Ω q)) (oB G A) A) 0 0 A := by
  refine Met.ofW (cc := cX4_readAlias) (maxL := 2) (ret := (some .boolean)) (by decide) rfl ?_
  intro p e s m args below meth c s₁ B hml hv
  obtain ⟨rfl, hW, hK, hN, hZ⟩ := hv
  have hx := B.exec
  have hb := B.bytes
  have hr := B.returns
  have hts : ∀ w ∈ gt, w.before _ s = true := fun w hw => atoms_spec (ws := wz yX4_readAlias cX4_readAlias 2 (some .boolean)) B.pre w (List.mem_cons_of_mem _ hw)
  have hown : s.vm.findClass RX4 = some m.cls := findClass_of_methodNamed B.named
  have hlocks := B.notSynchronized
  have hA : ∀ q, A q → A q := fun _ h => h
  have hS : va_S A s.heap s.heap [] := va_S.rf
  have hS0 := hS
  have hl := lv_entry ([.ref p0]) (n := 2) (Nat.le_of_ble_eq_true rfl)
  rw [lg_entry_eq]
  generalize (lg_sl ([.ref p0]) ++ List.replicate (2 - (lg_sl ([.ref p0])).length) Slot.unset).toArray = ls at hl ⊢
  have hl : lv_has ls 2 [(0, .ref p0)] := hl
  have hE : ∀ q : Nat, (q < p0k ∨ p0k + 1 ≤ q) → (q < p0b ∨ p0b + 13 ≤ q) → Ω q = Ω q := by intros; rfl
  generalize hR : (f_X4_readAlias p0k_0 p0k_1 p0k_2 p0kt_0 p0kt_1 p0b_0) = R
  rw [f_X4_readAlias] at hR
  refine lv_aload_n hx hb dX4_readAlias_0 rfl (lv_at hl 0 rfl) ?_
  refine o_get hx hb hts hown hK hW (inPar_o h_p0) rfl ig4 1 (by decide) fl_X4_12 rfl dX4_readAlias_1 ?_
  refine o_get hx hb hts hown hK hW (inBlk_o h_p0b) rfl ig0 2 (by decide) fl_X4_119 rfl dX4_readAlias_4 ?_
  refine lv_istore_n (lv' := [(1, .int (p0b_0 0 2)), (0, .ref p0)]) hx hb dX4_readAlias_7 rfl hl (by decide) rfl (fun ls hl => ?_)
  refine lv_iload_n hx hb dX4_readAlias_8 rfl (lv_at hl 0 rfl) ?_
  refine lv_iconst (v := (4 : Int32)) hx hb dX4_readAlias_9 (by decide) ?_
  have j_2 : (4 : Int32).toInt = 4 := by decide
  try have j_3 : 0 ≤ (p0b_0 0 2).toInt ∧ (p0b_0 0 2).toInt ≤ 4 := BI_als (by assumption)
  refine lv_icmp_ge (tgt := 23) hx hb dX4_readAlias_10 (by decide) (fun c_1 => ?_) (fun c_1 => ?_)
  · rw [if_pos c_1] at hR
    have i_1 := rle c_1
    refine lv_iconst (v := (0 : Int32)) hx hb dX4_readAlias_23 (by decide) ?_
    subst hR
    exact W.zret (v := (0 : Int32)) hx hb hr (nb01 (Or.inl rfl)) (fun t ht hW9 => ⟨⟨(0 : Int32), Ω, rfl, ⟨rfl, (Or.inl rfl), h_p0k, h_p0b, hE⟩, by rw [oB, ht]; exact hW⟩, hS.F ht⟩) hS.2.2 dX4_readAlias_24
  · rw [if_neg c_1] at hR
    have i_1 := rnle c_1
    refine lv_aload_n hx hb dX4_readAlias_13 rfl (lv_at hl 1 rfl) ?_
    refine lv_iconst (v := (0 : Int32)) hx hb dX4_readAlias_14 (by decide) ?_
    refine lv_bipush (v := (15 : Int32)) hx hb dX4_readAlias_15 (by decide) ?_
    have j_4 : (0 : Int32).toInt = 0 := by decide
    have j_5 : (15 : Int32).toInt = 15 := by decide
    refine o_Vi (rest := []) (As := [.int (0 : Int32), .int (15 : Int32)]) (n := 2) hx hb hml hown hts hK hN hZ hW hS hA (c_X4_takeNumber l G A Ω p0 p0k p0kt p0b p0k_0 p0k_1 p0k_2 p0kt_0 p0kt_1 (0 : Int32) (15 : Int32) (by omega) (by omega) (by omega) (by omega) (by omega) (by omega) (by omega) (by omega) h_p0 h_p0k h_p0kt) (inPar_o h_p0) rfl (good_V ml_X4_69 im_X4_takeNumber se_X4_takeNumber ini_X4 co_X4_takeNumber) (by decide +kernel) ⟨Nat.zero_le _, Nat.zero_le _⟩ hl.1 (Nat.le_of_ble_eq_true rfl) rfl rfl dX4_readAlias_17 (fun r Ω_6 H locs hp hW hS => ?_)
    obtain ⟨rfl, hz_6, h_p0k, hF_6⟩ := hp
    have h_p0 := h_p0.keep (fun q h1 h2 => hF_6 q (by omega))
    have h_p0kt := h_p0kt.keep (fun q h1 h2 => hF_6 q (by omega))
    have h_p0b := h_p0b.keep (fun q h1 h2 => hF_6 q (by omega))
    have hE : ∀ q : Nat, (q < p0k ∨ p0k + 1 ≤ q) → (q < p0b ∨ p0b + 13 ≤ q) → Ω_6 q = Ω q := fun q g0 g1 => (hF_6 q (by omega)).trans (hE q g0 g1)
    have qt_6 : 0 ≤ (f_X4_takeNumber p0k_1 p0kt_0 p0kt_1 (0 : Int32) (15 : Int32)).2.1.toInt ∧ (f_X4_takeNumber p0k_1 p0kt_0 p0kt_1 (0 : Int32) (15 : Int32)).2.1.toInt ≤ (f_X4_takeNumber p0k_1 p0kt_0 p0kt_1 (0 : Int32) (15 : Int32)).2.2.1.toInt ∧ (f_X4_takeNumber p0k_1 p0kt_0 p0kt_1 (0 : Int32) (15 : Int32)).2.2.1.toInt ≤ p0kt_1.toInt := (R_takeNumber hT_p0kt (by omega)).1
    have qn_6 : (f_X4_takeNumber p0k_1 p0kt_0 p0kt_1 (0 : Int32) (15 : Int32)).1.toInt = 0 ∨ ((0 : Int32).toInt ≤ (f_X7_number (f_X4_takeNumber p0k_1 p0kt_0 p0kt_1 (0 : Int32) (15 : Int32)).2.1 (f_X4_takeNumber p0k_1 p0kt_0 p0kt_1 (0 : Int32) (15 : Int32)).2.2.1 (f_X4_takeNumber p0k_1 p0kt_0 p0kt_1 (0 : Int32) (15 : Int32)).2.2.2 p0kt_0).toInt ∧ (f_X7_number (f_X4_takeNumber p0k_1 p0kt_0 p0kt_1 (0 : Int32) (15 : Int32)).2.1 (f_X4_takeNumber p0k_1 p0kt_0 p0kt_1 (0 : Int32) (15 : Int32)).2.2.1 (f_X4_takeNumber p0k_1 p0kt_0 p0kt_1 (0 : Int32) (15 : Int32)).2.2.2 p0kt_0).toInt ≤ (15 : Int32).toInt) := (R_takeNumber hT_p0kt (by omega)).2
    generalize (f_X4_takeNumber p0k_1 p0kt_0 p0kt_1 (0 : Int32) (15 : Int32)) = Z_6 at h_p0k hR qt_6 qn_6 hz_6 ⊢
    obtain ⟨z6_0, z6_1, z6_2, z6_3⟩ := Z_6
    dsimp only at h_p0k hR qt_6 qn_6 hz_6 ⊢
    rw [f_X4_readAlias_C20] at hR
    refine lv_if_ne (tgt := 25) hx hb dX4_readAlias_20 (by decide) (fun c_7 => ?_) (fun c_7 => ?_)
    · rw [if_neg c_7] at hR
      have i_7 := rne c_7
      refine lv_aload_n hx hb dX4_readAlias_25 rfl (lv_at hl 1 rfl) ?_
      refine o_get hx hb hts hown hK hW (inPar_o h_p0) rfl ig4 1 (by decide) fl_X4_12 rfl dX4_readAlias_26 ?_
      refine o_get hx hb hts hown hK hW (inBlk_o h_p0b) rfl ig0 12 (by decide) fl_X4_122 rfl dX4_readAlias_29 ?_
      refine lv_iload_n hx hb dX4_readAlias_32 rfl (lv_at hl 0 rfl) ?_
      refine lv_aload_n hx hb dX4_readAlias_33 rfl (lv_at hl 1 rfl) ?_
      refine o_get hx hb hts hown hK hW (inPar_o h_p0) rfl ig4 0 (by decide) fl_X4_23 rfl dX4_readAlias_34 ?_
      refine o_ViR (rest := [.int (p0b_0 0 2), .ref (p0b + 10)]) (As := []) (n := 0) hx hb hml hown hts hK hN hZ hW hS hA (c_X7_number l G A Ω_6 p0k p0kt z6_1 z6_2 z6_3 p0kt_0 p0kt_1 (by omega) (by omega) h_p0k h_p0kt) (inTok_o h_p0k) rfl (good_V ml_X4_77 im_X7_number se_X7_number ini_X7 co_X7_number) (by decide +kernel) ⟨Nat.zero_le _, Nat.zero_le _⟩ hl.1 (Nat.le_of_ble_eq_true rfl) rfl rfl dX4_readAlias_37 (fun r H locs hp hW hS => ?_)
      subst hp
      refine wBlk_9 hx hb hK hW hS hA h_p0b (vp_in_iff.mpr ⟨by omega, by omega⟩) dX4_readAlias_40 (fun Ω_9 H locs h_p0b hF_9 hW hS => ?_)
      have h_p0 := h_p0.keep (fun q h1 h2 => hF_9 q (by omega))
      have h_p0k := h_p0k.keep (fun q h1 h2 => hF_9 q (by omega))
      have h_p0kt := h_p0kt.keep (fun q h1 h2 => hF_9 q (by omega))
      have hE : ∀ q : Nat, (q < p0k ∨ p0k + 1 ≤ q) → (q < p0b ∨ p0b + 13 ≤ q) → Ω_9 q = Ω q := fun q g0 g1 => (hF_9 q (by omega)).trans (hE q g0 g1)
      refine lv_aload_n hx hb dX4_readAlias_41 rfl (lv_at hl 1 rfl) ?_
      refine lv_iconst (v := (0 : Int32)) hx hb dX4_readAlias_42 (by decide) ?_
      refine lv_aload_n hx hb dX4_readAlias_43 rfl (lv_at hl 1 rfl) ?_
      refine o_get hx hb hts hown hK hW (inPar_o h_p0) rfl ig4 1 (by decide) fl_X4_12 rfl dX4_readAlias_44 ?_
      refine o_get hx hb hts hown hK hW (inBlk_o h_p0b) rfl ig0 0 (by decide) fl_X4_66 rfl dX4_readAlias_47 ?_
      refine lv_iconst (v := (1 : Int32)) hx hb dX4_readAlias_50 (by decide) ?_
      refine lv_isub hx hb dX4_readAlias_51 ?_
      try have j_10 : 0 ≤ ((bw p0b_0 10 (p0b_0 0 2).toNatClampNeg (f_X7_number z6_1 z6_2 z6_3 p0kt_0)) 0 0).toInt ∧ ((bw p0b_0 10 (p0b_0 0 2).toNatClampNeg (f_X7_number z6_1 z6_2 z6_3 p0kt_0)) 0 0).toInt ≤ 6 := BI_regs (by assumption)
      have j_11 : (1 : Int32).toInt = 1 := by decide
      try have j_12 : (((bw p0b_0 10 (p0b_0 0 2).toNatClampNeg (f_X7_number z6_1 z6_2 z6_3 p0kt_0)) 0 0) - (1 : Int32)).toInt = ((bw p0b_0 10 (p0b_0 0 2).toNatClampNeg (f_X7_number z6_1 z6_2 z6_3 p0kt_0)) 0 0).toInt - (1 : Int32).toInt := fb_subI (by omega) (by omega)
      refine o_Vi (rest := []) (As := [.int (0 : Int32), .int (((bw p0b_0 10 (p0b_0 0 2).toNatClampNeg (f_X7_number z6_1 z6_2 z6_3 p0kt_0)) 0 0) - (1 : Int32))]) (n := 2) hx hb hml hown hts hK hN hZ hW hS hA (c_X4_takeNumber l G A Ω_9 p0 p0k p0kt p0b z6_1 z6_2 z6_3 p0kt_0 p0kt_1 (0 : Int32) (((bw p0b_0 10 (p0b_0 0 2).toNatClampNeg (f_X7_number z6_1 z6_2 z6_3 p0kt_0)) 0 0) - (1 : Int32)) (by omega) (by omega) (by omega) (by omega) (by omega) (by omega) (by omega) (by omega) h_p0 h_p0k h_p0kt) (inPar_o h_p0) rfl (good_V ml_X4_69 im_X4_takeNumber se_X4_takeNumber ini_X4 co_X4_takeNumber) (by decide +kernel) ⟨Nat.zero_le _, Nat.zero_le _⟩ hl.1 (Nat.le_of_ble_eq_true rfl) rfl rfl dX4_readAlias_52 (fun r Ω_13 H locs hp hW hS => ?_)
      obtain ⟨rfl, hz_13, h_p0k, hF_13⟩ := hp
      have h_p0 := h_p0.keep (fun q h1 h2 => hF_13 q (by omega))
      have h_p0kt := h_p0kt.keep (fun q h1 h2 => hF_13 q (by omega))
      have h_p0b := h_p0b.keep (fun q h1 h2 => hF_13 q (by omega))
      have hE : ∀ q : Nat, (q < p0k ∨ p0k + 1 ≤ q) → (q < p0b ∨ p0b + 13 ≤ q) → Ω_13 q = Ω q := fun q g0 g1 => (hF_13 q (by omega)).trans (hE q g0 g1)
      have qt_13 : 0 ≤ (f_X4_takeNumber z6_2 p0kt_0 p0kt_1 (0 : Int32) (((bw p0b_0 10 (p0b_0 0 2).toNatClampNeg (f_X7_number z6_1 z6_2 z6_3 p0kt_0)) 0 0) - (1 : Int32))).2.1.toInt ∧ (f_X4_takeNumber z6_2 p0kt_0 p0kt_1 (0 : Int32) (((bw p0b_0 10 (p0b_0 0 2).toNatClampNeg (f_X7_number z6_1 z6_2 z6_3 p0kt_0)) 0 0) - (1 : Int32))).2.1.toInt ≤ (f_X4_takeNumber z6_2 p0kt_0 p0kt_1 (0 : Int32) (((bw p0b_0 10 (p0b_0 0 2).toNatClampNeg (f_X7_number z6_1 z6_2 z6_3 p0kt_0)) 0 0) - (1 : Int32))).2.2.1.toInt ∧ (f_X4_takeNumber z6_2 p0kt_0 p0kt_1 (0 : Int32) (((bw p0b_0 10 (p0b_0 0 2).toNatClampNeg (f_X7_number z6_1 z6_2 z6_3 p0kt_0)) 0 0) - (1 : Int32))).2.2.1.toInt ≤ p0kt_1.toInt := (R_takeNumber hT_p0kt (by omega)).1
      have qn_13 : (f_X4_takeNumber z6_2 p0kt_0 p0kt_1 (0 : Int32) (((bw p0b_0 10 (p0b_0 0 2).toNatClampNeg (f_X7_number z6_1 z6_2 z6_3 p0kt_0)) 0 0) - (1 : Int32))).1.toInt = 0 ∨ ((0 : Int32).toInt ≤ (f_X7_number (f_X4_takeNumber z6_2 p0kt_0 p0kt_1 (0 : Int32) (((bw p0b_0 10 (p0b_0 0 2).toNatClampNeg (f_X7_number z6_1 z6_2 z6_3 p0kt_0)) 0 0) - (1 : Int32))).2.1 (f_X4_takeNumber z6_2 p0kt_0 p0kt_1 (0 : Int32) (((bw p0b_0 10 (p0b_0 0 2).toNatClampNeg (f_X7_number z6_1 z6_2 z6_3 p0kt_0)) 0 0) - (1 : Int32))).2.2.1 (f_X4_takeNumber z6_2 p0kt_0 p0kt_1 (0 : Int32) (((bw p0b_0 10 (p0b_0 0 2).toNatClampNeg (f_X7_number z6_1 z6_2 z6_3 p0kt_0)) 0 0) - (1 : Int32))).2.2.2 p0kt_0).toInt ∧ (f_X7_number (f_X4_takeNumber z6_2 p0kt_0 p0kt_1 (0 : Int32) (((bw p0b_0 10 (p0b_0 0 2).toNatClampNeg (f_X7_number z6_1 z6_2 z6_3 p0kt_0)) 0 0) - (1 : Int32))).2.1 (f_X4_takeNumber z6_2 p0kt_0 p0kt_1 (0 : Int32) (((bw p0b_0 10 (p0b_0 0 2).toNatClampNeg (f_X7_number z6_1 z6_2 z6_3 p0kt_0)) 0 0) - (1 : Int32))).2.2.1 (f_X4_takeNumber z6_2 p0kt_0 p0kt_1 (0 : Int32) (((bw p0b_0 10 (p0b_0 0 2).toNatClampNeg (f_X7_number z6_1 z6_2 z6_3 p0kt_0)) 0 0) - (1 : Int32))).2.2.2 p0kt_0).toInt ≤ (((bw p0b_0 10 (p0b_0 0 2).toNatClampNeg (f_X7_number z6_1 z6_2 z6_3 p0kt_0)) 0 0) - (1 : Int32)).toInt) := (R_takeNumber hT_p0kt (by omega)).2
      generalize (f_X4_takeNumber z6_2 p0kt_0 p0kt_1 (0 : Int32) (((bw p0b_0 10 (p0b_0 0 2).toNatClampNeg (f_X7_number z6_1 z6_2 z6_3 p0kt_0)) 0 0) - (1 : Int32))) = Z_13 at h_p0k hR qt_13 qn_13 hz_13 ⊢
      obtain ⟨z13_0, z13_1, z13_2, z13_3⟩ := Z_13
      dsimp only at h_p0k hR qt_13 qn_13 hz_13 ⊢
      rw [f_X4_readAlias_C55] at hR
      refine lv_if_ne (tgt := 60) hx hb dX4_readAlias_55 (by decide) (fun c_14 => ?_) (fun c_14 => ?_)
      · rw [if_neg c_14] at hR
        have i_14 := rne c_14
        refine lv_aload_n hx hb dX4_readAlias_60 rfl (lv_at hl 1 rfl) ?_
        refine o_get hx hb hts hown hK hW (inPar_o h_p0) rfl ig4 1 (by decide) fl_X4_12 rfl dX4_readAlias_61 ?_
        refine o_get hx hb hts hown hK hW (inBlk_o h_p0b) rfl ig0 13 (by decide) fl_X4_125 rfl dX4_readAlias_64 ?_
        refine lv_iload_n hx hb dX4_readAlias_67 rfl (lv_at hl 0 rfl) ?_
        refine lv_aload_n hx hb dX4_readAlias_68 rfl (lv_at hl 1 rfl) ?_
        refine o_get hx hb hts hown hK hW (inPar_o h_p0) rfl ig4 0 (by decide) fl_X4_23 rfl dX4_readAlias_69 ?_
        refine o_ViR (rest := [.int (p0b_0 0 2), .ref (p0b + 11)]) (As := []) (n := 0) hx hb hml hown hts hK hN hZ hW hS hA (c_X7_number l G A Ω_13 p0k p0kt z13_1 z13_2 z13_3 p0kt_0 p0kt_1 (by omega) (by omega) h_p0k h_p0kt) (inTok_o h_p0k) rfl (good_V ml_X4_77 im_X7_number se_X7_number ini_X7 co_X7_number) (by decide +kernel) ⟨Nat.zero_le _, Nat.zero_le _⟩ hl.1 (Nat.le_of_ble_eq_true rfl) rfl rfl dX4_readAlias_72 (fun r H locs hp hW hS => ?_)
        subst hp
        refine wBlk_10 hx hb hK hW hS hA h_p0b (vp_in_iff.mpr ⟨by omega, by omega⟩) dX4_readAlias_75 (fun Ω_16 H locs h_p0b hF_16 hW hS => ?_)
        have h_p0 := h_p0.keep (fun q h1 h2 => hF_16 q (by omega))
        have h_p0k := h_p0k.keep (fun q h1 h2 => hF_16 q (by omega))
        have h_p0kt := h_p0kt.keep (fun q h1 h2 => hF_16 q (by omega))
        have hE : ∀ q : Nat, (q < p0k ∨ p0k + 1 ≤ q) → (q < p0b ∨ p0b + 13 ≤ q) → Ω_16 q = Ω q := fun q g0 g1 => (hF_16 q (by omega)).trans (hE q g0 g1)
        refine lv_aload_n hx hb dX4_readAlias_76 rfl (lv_at hl 1 rfl) ?_
        refine o_Vi (rest := []) (As := []) (n := 0) hx hb hml hown hts hK hN hZ hW hS hA (c_X4_takeKind l G A Ω_16 p0 p0k p0kt p0b z13_1 z13_2 z13_3 p0kt_0 p0kt_1 (by omega) (by omega) (by omega) (by omega) (by omega) (by omega) (by omega) (by omega) h_p0 h_p0k h_p0kt) (inPar_o h_p0) rfl (good_V ml_X4_92 im_X4_takeKind se_X4_takeKind ini_X4 co_X4_takeKind) (by decide +kernel) ⟨Nat.zero_le _, Nat.zero_le _⟩ hl.1 (Nat.le_of_ble_eq_true rfl) rfl rfl dX4_readAlias_77 (fun r Ω_17 H locs hp hW hS => ?_)
        obtain ⟨rfl, hz_17, h_p0k, hF_17⟩ := hp
        have h_p0 := h_p0.keep (fun q h1 h2 => hF_17 q (by omega))
        have h_p0kt := h_p0kt.keep (fun q h1 h2 => hF_17 q (by omega))
        have h_p0b := h_p0b.keep (fun q h1 h2 => hF_17 q (by omega))
        have hE : ∀ q : Nat, (q < p0k ∨ p0k + 1 ≤ q) → (q < p0b ∨ p0b + 13 ≤ q) → Ω_17 q = Ω q := fun q g0 g1 => (hF_17 q (by omega)).trans (hE q g0 g1)
        have qt_17 : 0 ≤ (f_X4_takeKind z13_2 p0kt_0 p0kt_1).2.1.toInt ∧ (f_X4_takeKind z13_2 p0kt_0 p0kt_1).2.1.toInt ≤ (f_X4_takeKind z13_2 p0kt_0 p0kt_1).2.2.1.toInt ∧ (f_X4_takeKind z13_2 p0kt_0 p0kt_1).2.2.1.toInt ≤ p0kt_1.toInt := R_takeKind hT_p0kt (by omega)
        generalize (f_X4_takeKind z13_2 p0kt_0 p0kt_1) = Z_17 at h_p0k hR qt_17 hz_17 ⊢
        obtain ⟨z17_0, z17_1, z17_2, z17_3⟩ := Z_17
        dsimp only at h_p0k hR qt_17 hz_17 ⊢
        rw [f_X4_readAlias_C80] at hR
        refine lv_if_eq (tgt := 96) hx hb dX4_readAlias_80 (by decide) (fun c_18 => ?_) (fun c_18 => ?_)
        · rw [if_pos c_18] at hR
          have i_18 := congrArg Int32.toInt c_18
          refine lv_iconst (v := (0 : Int32)) hx hb dX4_readAlias_96 (by decide) ?_
          subst hR
          exact W.zret (v := (0 : Int32)) hx hb hr (nb01 (Or.inl rfl)) (fun t ht hW9 => ⟨⟨(0 : Int32), Ω_17, rfl, ⟨rfl, (Or.inl rfl), h_p0k, h_p0b, hE⟩, by rw [oB, ht]; exact hW⟩, hS.F ht⟩) hS.2.2 dX4_readAlias_97
        · rw [if_neg c_18] at hR
          have i_18 := rne c_18
          refine lv_aload_n hx hb dX4_readAlias_83 rfl (lv_at hl 1 rfl) ?_
          refine o_get hx hb hts hown hK hW (inPar_o h_p0) rfl ig4 0 (by decide) fl_X4_23 rfl dX4_readAlias_84 ?_
          refine o_ViR (rest := []) (As := []) (n := 0) hx hb hml hown hts hK hN hZ hW hS hA (c_X7_kind l G A Ω_17 p0k p0kt z17_1 z17_2 z17_3 p0kt_0 p0kt_1 (by omega) (by omega) h_p0k h_p0kt) (inTok_o h_p0k) rfl (good_V ml_X4_101 im_X7_kind se_X7_kind ini_X7 co_X7_kind) (by decide +kernel) ⟨Nat.zero_le _, Nat.zero_le _⟩ hl.1 (Nat.le_of_ble_eq_true rfl) rfl rfl dX4_readAlias_87 (fun r H locs hp hW hS => ?_)
          subst hp
          refine o_SiR (rest := []) (As := [.int (f_X7_kind z17_1 z17_2 z17_3 p0kt_0)]) (n := 1) hx hb hml hown hts hK hN hZ hW hS hA (c_X4_suitsAlias l G A Ω_17 (f_X7_kind z17_1 z17_2 z17_3 p0kt_0)) ml_X4_128 st_X4_suitsAlias ini_X4 co_X4_suitsAlias (by decide +kernel) ⟨Nat.zero_le _, Nat.zero_le _⟩ hl.1 (Nat.le_of_ble_eq_true rfl) rfl rfl dX4_readAlias_90 (fun r H locs hp hW hS => ?_)
          obtain ⟨rfl, hz_20⟩ := hp
          refine lv_if_ne (tgt := 98) hx hb dX4_readAlias_93 (by decide) (fun c_21 => ?_) (fun c_21 => ?_)
          · rw [if_neg c_21] at hR
            have i_21 := rne c_21
            refine lv_aload_n hx hb dX4_readAlias_98 rfl (lv_at hl 1 rfl) ?_
            refine o_get hx hb hts hown hK hW (inPar_o h_p0) rfl ig4 1 (by decide) fl_X4_12 rfl dX4_readAlias_99 ?_
            refine o_get hx hb hts hown hK hW (inBlk_o h_p0b) rfl ig0 14 (by decide) fl_X4_132 rfl dX4_readAlias_102 ?_
            refine lv_iload_n hx hb dX4_readAlias_105 rfl (lv_at hl 0 rfl) ?_
            refine lv_aload_n hx hb dX4_readAlias_106 rfl (lv_at hl 1 rfl) ?_
            refine o_get hx hb hts hown hK hW (inPar_o h_p0) rfl ig4 0 (by decide) fl_X4_23 rfl dX4_readAlias_107 ?_
            refine o_ViR (rest := [.int (p0b_0 0 2), .ref (p0b + 12)]) (As := []) (n := 0) hx hb hml hown hts hK hN hZ hW hS hA (c_X7_kind l G A Ω_17 p0k p0kt z17_1 z17_2 z17_3 p0kt_0 p0kt_1 (by omega) (by omega) h_p0k h_p0kt) (inTok_o h_p0k) rfl (good_V ml_X4_101 im_X7_kind se_X7_kind ini_X7 co_X7_kind) (by decide +kernel) ⟨Nat.zero_le _, Nat.zero_le _⟩ hl.1 (Nat.le_of_ble_eq_true rfl) rfl rfl dX4_readAlias_110 (fun r H locs hp hW hS => ?_)
            subst hp
            refine wBlk_11 hx hb hK hW hS hA h_p0b (vp_in_iff.mpr ⟨by omega, by omega⟩) dX4_readAlias_113 (fun Ω_23 H locs h_p0b hF_23 hW hS => ?_)
            have h_p0 := h_p0.keep (fun q h1 h2 => hF_23 q (by omega))
            have h_p0k := h_p0k.keep (fun q h1 h2 => hF_23 q (by omega))
            have h_p0kt := h_p0kt.keep (fun q h1 h2 => hF_23 q (by omega))
            have hE : ∀ q : Nat, (q < p0k ∨ p0k + 1 ≤ q) → (q < p0b ∨ p0b + 13 ≤ q) → Ω_23 q = Ω q := fun q g0 g1 => (hF_23 q (by omega)).trans (hE q g0 g1)
            refine lv_aload_n hx hb dX4_readAlias_114 rfl (lv_at hl 1 rfl) ?_
            refine o_get hx hb hts hown hK hW (inPar_o h_p0) rfl ig4 1 (by decide) fl_X4_12 rfl dX4_readAlias_115 ?_
            refine lv_dup hx hb dX4_readAlias_118 rfl ?_
            refine o_get hx hb hts hown hK hW (inBlk_o h_p0b) rfl ig0 2 (by decide) fl_X4_119 rfl dX4_readAlias_119 ?_
            refine lv_iconst (v := (1 : Int32)) hx hb dX4_readAlias_122 (by decide) ?_
            refine lv_iadd hx hb dX4_readAlias_123 ?_
            refine vBlk_2 hx hb hts hown hK hW hS hA h_p0b fl_X4_119 dX4_readAlias_124 (fun Ω_24 H locs h_p0b hF_24 hW hS => ?_)
            have h_p0 := h_p0.keep (fun q h1 h2 => hF_24 q (by omega))
            have h_p0k := h_p0k.keep (fun q h1 h2 => hF_24 q (by omega))
            have h_p0kt := h_p0kt.keep (fun q h1 h2 => hF_24 q (by omega))
            have hE : ∀ q : Nat, (q < p0k ∨ p0k + 1 ≤ q) → (q < p0b ∨ p0b + 13 ≤ q) → Ω_24 q = Ω q := fun q g0 g1 => (hF_24 q (by omega)).trans (hE q g0 g1)
            refine lv_aload_n hx hb dX4_readAlias_127 rfl (lv_at hl 1 rfl) ?_
            refine o_Vi (rest := []) (As := []) (n := 0) hx hb hml hown hts hK hN hZ hW hS hA (c_X4_takeSemicolon l G A Ω_24 p0 p0k p0kt p0b z17_1 z17_2 z17_3 p0kt_0 p0kt_1 (by omega) (by omega) (by omega) (by omega) (by omega) (by omega) (by omega) (by omega) h_p0 h_p0k h_p0kt) (inPar_o h_p0) rfl (good_V ml_X4_86 im_X4_takeSemicolon se_X4_takeSemicolon ini_X4 co_X4_takeSemicolon) (by decide +kernel) ⟨Nat.zero_le _, Nat.zero_le _⟩ hl.1 (Nat.le_of_ble_eq_true rfl) rfl rfl dX4_readAlias_128 (fun r Ω_25 H locs hp hW hS => ?_)
            obtain ⟨rfl, hz_25, h_p0k, hF_25⟩ := hp
            have h_p0 := h_p0.keep (fun q h1 h2 => hF_25 q (by omega))
            have h_p0kt := h_p0kt.keep (fun q h1 h2 => hF_25 q (by omega))
            have h_p0b := h_p0b.keep (fun q h1 h2 => hF_25 q (by omega))
            have hE : ∀ q : Nat, (q < p0k ∨ p0k + 1 ≤ q) → (q < p0b ∨ p0b + 13 ≤ q) → Ω_25 q = Ω q := fun q g0 g1 => (hF_25 q (by omega)).trans (hE q g0 g1)
            have qt_25 : 0 ≤ (f_X4_takeSemicolon z17_2 p0kt_0 p0kt_1).2.1.toInt ∧ (f_X4_takeSemicolon z17_2 p0kt_0 p0kt_1).2.1.toInt ≤ (f_X4_takeSemicolon z17_2 p0kt_0 p0kt_1).2.2.1.toInt ∧ (f_X4_takeSemicolon z17_2 p0kt_0 p0kt_1).2.2.1.toInt ≤ p0kt_1.toInt := R_takeSemicolon hT_p0kt (by omega)
            generalize (f_X4_takeSemicolon z17_2 p0kt_0 p0kt_1) = Z_25 at h_p0k hR qt_25 hz_25 ⊢
            obtain ⟨z25_0, z25_1, z25_2, z25_3⟩ := Z_25
            dsimp only at h_p0k hR qt_25 hz_25 ⊢
            rw [f_X4_readAlias_C131] at hR
            subst hR
            exact W.zret (v := z25_0) hx hb hr (nb01 hz_25) (fun t ht hW9 => ⟨⟨z25_0, Ω_25, rfl, ⟨rfl, hz_25, h_p0k, h_p0b, hE⟩, by rw [oB, ht]; exact hW⟩, hS.F ht⟩) hS.2.2 dX4_readAlias_131
          · rw [if_pos c_21] at hR
            have i_21 := congrArg Int32.toInt c_21
            refine lv_iconst (v := (0 : Int32)) hx hb dX4_readAlias_96 (by decide) ?_
            subst hR
            exact W.zret (v := (0 : Int32)) hx hb hr (nb01 (Or.inl rfl)) (fun t ht hW9 => ⟨⟨(0 : Int32), Ω_17, rfl, ⟨rfl, (Or.inl rfl), h_p0k, h_p0b, hE⟩, by rw [oB, ht]; exact hW⟩, hS.F ht⟩) hS.2.2 dX4_readAlias_97
      · rw [if_pos c_14] at hR
        have i_14 := congrArg Int32.toInt c_14
        refine lv_iconst (v := (0 : Int32)) hx hb dX4_readAlias_58 (by decide) ?_
        subst hR
        exact W.zret (v := (0 : Int32)) hx hb hr (nb01 (Or.inl rfl)) (fun t ht hW9 => ⟨⟨(0 : Int32), Ω_13, rfl, ⟨rfl, (Or.inl rfl), h_p0k, h_p0b, hE⟩, by rw [oB, ht]; exact hW⟩, hS.F ht⟩) hS.2.2 dX4_readAlias_59
    · rw [if_pos c_7] at hR
      have i_7 := congrArg Int32.toInt c_7
      refine lv_iconst (v := (0 : Int32)) hx hb dX4_readAlias_23 (by decide) ?_
      subst hR
      exact W.zret (v := (0 : Int32)) hx hb hr (nb01 (Or.inl rfl)) (fun t ht hW9 => ⟨⟨(0 : Int32), Ω_6, rfl, ⟨rfl, (Or.inl rfl), h_p0k, h_p0b, hE⟩, by rw [oB, ht]; exact hW⟩, hS.F ht⟩) hS.2.2 dX4_readAlias_24
set_option maxHeartbeats 4000000 in
set_option maxRecDepth 100000 in
theorem c_X4_readItem (l : Launch) (G : Gm) (A : Nat → Prop) (Ω : Om) (p0 : Nat) (p0k : Nat) (p0kt : Nat) (p0b : Nat) (p0k_0 : Int32) (p0k_1 : Int32) (p0k_2 : Int32) (p0kt_0 : Fn) (p0kt_1 : Int32) (p0b_0 : Blk) (hd_p0_p0k : p0 + 1 ≤ p0k ∨ p0k + 1 ≤ p0) (hd_p0_p0kt : p0 + 1 ≤ p0kt ∨ p0kt + 2 ≤ p0) (hd_p0_p0b : p0 + 1 ≤ p0b ∨ p0b + 13 ≤ p0) (hd_p0k_p0kt : p0k + 1 ≤ p0kt ∨ p0kt + 2 ≤ p0k) (hd_p0k_p0b : p0k + 1 ≤ p0b ∨ p0b + 13 ≤ p0k) (hd_p0kt_p0b : p0kt + 2 ≤ p0b ∨ p0b + 13 ≤ p0kt) (hT_p0kt : 0 ≤ p0kt_1.toInt ∧ p0kt_1.toInt ≤ 160) (hB_p0b : BlkInv p0b_0) (hk : 0 ≤ p0k_0.toInt ∧ p0k_0.toInt ≤ p0k_1.toInt ∧ p0k_1.toInt ≤ p0kt_1.toInt) (h_p0 : inPar G Ω p0 p0k p0b) (h_p0k : inTok G Ω p0k p0kt p0k_0 p0k_1 p0k_2) (h_p0kt : inTxt G Ω p0kt p0kt_0 p0kt_1) (h_p0b : inBlk G Ω p0b p0b_0) : Met l yX4_readItem (wz yX4_readItem cX4_readItem 1 (some .boolean)) ({ frames := 4, cells := 0, slots := 0, locals := 90 } : Room) (va_Pc [.ref p0] (oS G A Ω)) (va_Qi (fun (r : Int32) (Ω1 : Om) => r = (f_X4_readItem p0k_0 p0k_1 p0k_2 p0kt_0 p0kt_1 p0b_0).1 ∧ (r = 0 ∨ r = 1) ∧ inTok G Ω1 p0k p0kt ((f_X4_readItem p0k_0 p0k_1 p0k_2 p0kt_0 p0kt_1 p0b_0).2.1) ((f_X4_readItem p0k_0 p0k_1 p0k_2 p0kt_0 p0kt_1 p0b_0).2.2.1) ((f_X4_readItem p0k_0 p0k_1 p0k_2 p0kt_0 p0kt_1 p0b_0).2.2.2.1) ∧ inBlk G Ω1 p0b ((f_X4_readItem p0k_0 p0k_1 p0k_2 p0kt_0 p0kt_1 p0b_0).2.2.2.2) ∧ (∀ q : Nat, (q < p0k ∨ p0k + 1 ≤ q) → (q < p0b ∨ p0b + 13 ≤ q) → Ω1 q = Ω q)) (oB G A) A) 0 0 A := by
  refine Met.ofW (cc := cX4_readItem) (maxL := 1) (ret := (some .boolean)) (by decide) rfl ?_
  intro p e s m args below meth c s₁ B hml hv
  obtain ⟨rfl, hW, hK, hN, hZ⟩ := hv
  have hx := B.exec
  have hb := B.bytes
  have hr := B.returns
  have hts : ∀ w ∈ gt, w.before _ s = true := fun w hw => atoms_spec (ws := wz yX4_readItem cX4_readItem 1 (some .boolean)) B.pre w (List.mem_cons_of_mem _ hw)
  have hown : s.vm.findClass RX4 = some m.cls := findClass_of_methodNamed B.named
  have hlocks := B.notSynchronized
  have hA : ∀ q, A q → A q := fun _ h => h
  have hS : va_S A s.heap s.heap [] := va_S.rf
  have hS0 := hS
  have hl := lv_entry ([.ref p0]) (n := 1) (Nat.le_of_ble_eq_true rfl)
  rw [lg_entry_eq]
  generalize (lg_sl ([.ref p0]) ++ List.replicate (1 - (lg_sl ([.ref p0])).length) Slot.unset).toArray = ls at hl ⊢
  have hl : lv_has ls 1 [(0, .ref p0)] := hl
  have hE : ∀ q : Nat, (q < p0k ∨ p0k + 1 ≤ q) → (q < p0b ∨ p0b + 13 ≤ q) → Ω q = Ω q := by intros; rfl
  generalize hR : (f_X4_readItem p0k_0 p0k_1 p0k_2 p0kt_0 p0kt_1 p0b_0) = R
  rw [f_X4_readItem] at hR
  refine lv_aload_n hx hb dX4_readItem_0 rfl (lv_at hl 0 rfl) ?_
  refine o_get hx hb hts hown hK hW (inPar_o h_p0) rfl ig4 0 (by decide) fl_X4_23 rfl dX4_readItem_1 ?_
  refine o_ViR (rest := []) (As := []) (n := 0) hx hb hml hown hts hK hN hZ hW hS hA (c_X7_letter l G A Ω p0k p0kt p0k_0 p0k_1 p0k_2 p0kt_0 p0kt_1 (by omega) (by omega) h_p0k h_p0kt) (inTok_o h_p0k) rfl (good_V ml_X4_47 im_X7_letter se_X7_letter ini_X7 co_X7_letter) (by decide +kernel) ⟨Nat.zero_le _, Nat.zero_le _⟩ hl.1 (Nat.le_of_ble_eq_true rfl) rfl rfl dX4_readItem_4 (fun r H locs hp hW hS => ?_)
  subst hp
  by_cases c_2 : (f_X7_letter p0k_0 p0k_1 p0k_2 p0kt_0) = (97 : Int32)
  · rw [if_pos c_2] at hR
    refine lv_lookup (tgt := 66) hx hb dX4_readItem_7 (by decide) (by rw [c_2] <;> rfl) (by decide) ?_
    have i_2 := congrArg Int32.toInt c_2
    refine lv_aload_n hx hb dX4_readItem_66 rfl (lv_at hl 0 rfl) ?_
    refine o_Vi (rest := []) (As := []) (n := 0) hx hb hml hown hts hK hN hZ hW hS hA (c_X4_readAlias l G A Ω p0 p0k p0kt p0b p0k_0 p0k_1 p0k_2 p0kt_0 p0kt_1 p0b_0 (by omega) (by omega) (by omega) (by omega) (by omega) (by omega) (by omega) hB_p0b (by omega) h_p0 h_p0k h_p0kt h_p0b) (inPar_o h_p0) rfl (good_V ml_X4_57 im_X4_readAlias se_X4_readAlias ini_X4 co_X4_readAlias) (by decide +kernel) ⟨Nat.zero_le _, Nat.zero_le _⟩ hl.1 (Nat.le_of_ble_eq_true rfl) rfl rfl dX4_readItem_67 (fun r Ω_3 H locs hp hW hS => ?_)
    obtain ⟨rfl, hz_3, h_p0k, h_p0b, hF_3⟩ := hp
    have h_p0 := h_p0.keep (fun q h1 h2 => hF_3 q (by omega) (by omega))
    have h_p0kt := h_p0kt.keep (fun q h1 h2 => hF_3 q (by omega) (by omega))
    have hE : ∀ q : Nat, (q < p0k ∨ p0k + 1 ≤ q) → (q < p0b ∨ p0b + 13 ≤ q) → Ω_3 q = Ω q := fun q g0 g1 => (hF_3 q (by omega) (by omega)).trans (hE q g0 g1)
    generalize (f_X4_readAlias p0k_0 p0k_1 p0k_2 p0kt_0 p0kt_1 p0b_0) = Z_3 at h_p0k h_p0b hR hz_3 ⊢
    obtain ⟨z3_0, z3_1, z3_2, z3_3, z3_4⟩ := Z_3
    dsimp only at h_p0k h_p0b hR hz_3 ⊢
    rw [f_X4_readItem_C70] at hR
    subst hR
    exact W.zret (v := z3_0) hx hb hr (nb01 hz_3) (fun t ht hW9 => ⟨⟨z3_0, Ω_3, rfl, ⟨rfl, hz_3, h_p0k, h_p0b, hE⟩, by rw [oB, ht]; exact hW⟩, hS.F ht⟩) hS.2.2 dX4_readItem_70
  rw [if_neg c_2] at hR
  by_cases c_4 : (f_X7_letter p0k_0 p0k_1 p0k_2 p0kt_0) = (102 : Int32)
  · rw [if_pos c_4] at hR
    refine lv_lookup (tgt := 61) hx hb dX4_readItem_7 (by decide) (by rw [c_4] <;> rfl) (by decide) ?_
    have i_4 := congrArg Int32.toInt c_4
    refine lv_aload_n hx hb dX4_readItem_61 rfl (lv_at hl 0 rfl) ?_
    refine o_Vi (rest := []) (As := []) (n := 0) hx hb hml hown hts hK hN hZ hW hS hA (c_X4_readField l G A Ω p0 p0k p0kt p0b p0k_0 p0k_1 p0k_2 p0kt_0 p0kt_1 p0b_0 (by omega) (by omega) (by omega) (by omega) (by omega) (by omega) (by omega) hB_p0b (by omega) h_p0 h_p0k h_p0kt h_p0b) (inPar_o h_p0) rfl (good_V ml_X4_54 im_X4_readField se_X4_readField ini_X4 co_X4_readField) (by decide +kernel) ⟨Nat.zero_le _, Nat.zero_le _⟩ hl.1 (Nat.le_of_ble_eq_true rfl) rfl rfl dX4_readItem_62 (fun r Ω_5 H locs hp hW hS => ?_)
    obtain ⟨rfl, hz_5, h_p0k, h_p0b, hF_5⟩ := hp
    have h_p0 := h_p0.keep (fun q h1 h2 => hF_5 q (by omega) (by omega))
    have h_p0kt := h_p0kt.keep (fun q h1 h2 => hF_5 q (by omega) (by omega))
    have hE : ∀ q : Nat, (q < p0k ∨ p0k + 1 ≤ q) → (q < p0b ∨ p0b + 13 ≤ q) → Ω_5 q = Ω q := fun q g0 g1 => (hF_5 q (by omega) (by omega)).trans (hE q g0 g1)
    generalize (f_X4_readField p0k_0 p0k_1 p0k_2 p0kt_0 p0kt_1 p0b_0) = Z_5 at h_p0k h_p0b hR hz_5 ⊢
    obtain ⟨z5_0, z5_1, z5_2, z5_3, z5_4⟩ := Z_5
    dsimp only at h_p0k h_p0b hR hz_5 ⊢
    rw [f_X4_readItem_C65] at hR
    subst hR
    exact W.zret (v := z5_0) hx hb hr (nb01 hz_5) (fun t ht hW9 => ⟨⟨z5_0, Ω_5, rfl, ⟨rfl, hz_5, h_p0k, h_p0b, hE⟩, by rw [oB, ht]; exact hW⟩, hS.F ht⟩) hS.2.2 dX4_readItem_65
  rw [if_neg c_4] at hR
  by_cases c_6 : (f_X7_letter p0k_0 p0k_1 p0k_2 p0kt_0) = (107 : Int32)
  · rw [if_pos c_6] at hR
    refine lv_lookup (tgt := 71) hx hb dX4_readItem_7 (by decide) (by rw [c_6] <;> rfl) (by decide) ?_
    have i_6 := congrArg Int32.toInt c_6
    refine lv_aload_n hx hb dX4_readItem_71 rfl (lv_at hl 0 rfl) ?_
    refine o_Vi (rest := []) (As := []) (n := 0) hx hb hml hown hts hK hN hZ hW hS hA (c_X4_readLock l G A Ω p0 p0k p0kt p0b p0k_0 p0k_1 p0k_2 p0kt_0 p0kt_1 p0b_0 (by omega) (by omega) (by omega) (by omega) (by omega) (by omega) (by omega) hB_p0b (by omega) h_p0 h_p0k h_p0kt h_p0b) (inPar_o h_p0) rfl (good_V ml_X4_60 im_X4_readLock se_X4_readLock ini_X4 co_X4_readLock) (by decide +kernel) ⟨Nat.zero_le _, Nat.zero_le _⟩ hl.1 (Nat.le_of_ble_eq_true rfl) rfl rfl dX4_readItem_72 (fun r Ω_7 H locs hp hW hS => ?_)
    obtain ⟨rfl, hz_7, h_p0k, h_p0b, hF_7⟩ := hp
    have h_p0 := h_p0.keep (fun q h1 h2 => hF_7 q (by omega) (by omega))
    have h_p0kt := h_p0kt.keep (fun q h1 h2 => hF_7 q (by omega) (by omega))
    have hE : ∀ q : Nat, (q < p0k ∨ p0k + 1 ≤ q) → (q < p0b ∨ p0b + 13 ≤ q) → Ω_7 q = Ω q := fun q g0 g1 => (hF_7 q (by omega) (by omega)).trans (hE q g0 g1)
    generalize (f_X4_readLock p0k_0 p0k_1 p0k_2 p0kt_0 p0kt_1 p0b_0) = Z_7 at h_p0k h_p0b hR hz_7 ⊢
    obtain ⟨z7_0, z7_1, z7_2, z7_3, z7_4⟩ := Z_7
    dsimp only at h_p0k h_p0b hR hz_7 ⊢
    rw [f_X4_readItem_C75] at hR
    subst hR
    exact W.zret (v := z7_0) hx hb hr (nb01 hz_7) (fun t ht hW9 => ⟨⟨z7_0, Ω_7, rfl, ⟨rfl, hz_7, h_p0k, h_p0b, hE⟩, by rw [oB, ht]; exact hW⟩, hS.F ht⟩) hS.2.2 dX4_readItem_75
  rw [if_neg c_6] at hR
  by_cases c_8 : (f_X7_letter p0k_0 p0k_1 p0k_2 p0kt_0) = (114 : Int32)
  · rw [if_pos c_8] at hR
    refine lv_lookup (tgt := 56) hx hb dX4_readItem_7 (by decide) (by rw [c_8] <;> rfl) (by decide) ?_
    have i_8 := congrArg Int32.toInt c_8
    refine lv_aload_n hx hb dX4_readItem_56 rfl (lv_at hl 0 rfl) ?_
    refine o_Vi (rest := []) (As := []) (n := 0) hx hb hml hown hts hK hN hZ hW hS hA (c_X4_readRegister l G A Ω p0 p0k p0kt p0b p0k_0 p0k_1 p0k_2 p0kt_0 p0kt_1 p0b_0 (by omega) (by omega) (by omega) (by omega) (by omega) (by omega) (by omega) hB_p0b (by omega) h_p0 h_p0k h_p0kt h_p0b) (inPar_o h_p0) rfl (good_V ml_X4_51 im_X4_readRegister se_X4_readRegister ini_X4 co_X4_readRegister) (by decide +kernel) ⟨Nat.zero_le _, Nat.zero_le _⟩ hl.1 (Nat.le_of_ble_eq_true rfl) rfl rfl dX4_readItem_57 (fun r Ω_9 H locs hp hW hS => ?_)
    obtain ⟨rfl, hz_9, h_p0k, h_p0b, hF_9⟩ := hp
    have h_p0 := h_p0.keep (fun q h1 h2 => hF_9 q (by omega) (by omega))
    have h_p0kt := h_p0kt.keep (fun q h1 h2 => hF_9 q (by omega) (by omega))
    have hE : ∀ q : Nat, (q < p0k ∨ p0k + 1 ≤ q) → (q < p0b ∨ p0b + 13 ≤ q) → Ω_9 q = Ω q := fun q g0 g1 => (hF_9 q (by omega) (by omega)).trans (hE q g0 g1)
    generalize (f_X4_readRegister p0k_0 p0k_1 p0k_2 p0kt_0 p0kt_1 p0b_0) = Z_9 at h_p0k h_p0b hR hz_9 ⊢
    obtain ⟨z9_0, z9_1, z9_2, z9_3, z9_4⟩ := Z_9
    dsimp only at h_p0k h_p0b hR hz_9 ⊢
    rw [f_X4_readItem_C60] at hR
    subst hR
    exact W.zret (v := z9_0) hx hb hr (nb01 hz_9) (fun t ht hW9 => ⟨⟨z9_0, Ω_9, rfl, ⟨rfl, hz_9, h_p0k, h_p0b, hE⟩, by rw [oB, ht]; exact hW⟩, hS.F ht⟩) hS.2.2 dX4_readItem_60
  rw [if_neg c_8] at hR
  by_cases c_10 : (f_X7_letter p0k_0 p0k_1 p0k_2 p0kt_0) = (115 : Int32)
  · rw [if_pos c_10] at hR
    refine lv_lookup (tgt := 76) hx hb dX4_readItem_7 (by decide) (by rw [c_10] <;> rfl) (by decide) ?_
    have i_10 := congrArg Int32.toInt c_10
    refine lv_aload_n hx hb dX4_readItem_76 rfl (lv_at hl 0 rfl) ?_
    refine o_Vi (rest := []) (As := []) (n := 0) hx hb hml hown hts hK hN hZ hW hS hA (c_X4_readGate l G A Ω p0 p0k p0kt p0b p0k_0 p0k_1 p0k_2 p0kt_0 p0kt_1 p0b_0 (by omega) (by omega) (by omega) (by omega) (by omega) (by omega) (by omega) hB_p0b (by omega) h_p0 h_p0k h_p0kt h_p0b) (inPar_o h_p0) rfl (good_V ml_X4_63 im_X4_readGate se_X4_readGate ini_X4 co_X4_readGate) (by decide +kernel) ⟨Nat.zero_le _, Nat.zero_le _⟩ hl.1 (Nat.le_of_ble_eq_true rfl) rfl rfl dX4_readItem_77 (fun r Ω_11 H locs hp hW hS => ?_)
    obtain ⟨rfl, hz_11, h_p0k, h_p0b, hF_11⟩ := hp
    have h_p0 := h_p0.keep (fun q h1 h2 => hF_11 q (by omega) (by omega))
    have h_p0kt := h_p0kt.keep (fun q h1 h2 => hF_11 q (by omega) (by omega))
    have hE : ∀ q : Nat, (q < p0k ∨ p0k + 1 ≤ q) → (q < p0b ∨ p0b + 13 ≤ q) → Ω_11 q = Ω q := fun q g0 g1 => (hF_11 q (by omega) (by omega)).trans (hE q g0 g1)
    generalize (f_X4_readGate p0k_0 p0k_1 p0k_2 p0kt_0 p0kt_1 p0b_0) = Z_11 at h_p0k h_p0b hR hz_11 ⊢
    obtain ⟨z11_0, z11_1, z11_2, z11_3, z11_4⟩ := Z_11
    dsimp only at h_p0k h_p0b hR hz_11 ⊢
    rw [f_X4_readItem_C80] at hR
    subst hR
    exact W.zret (v := z11_0) hx hb hr (nb01 hz_11) (fun t ht hW9 => ⟨⟨z11_0, Ω_11, rfl, ⟨rfl, hz_11, h_p0k, h_p0b, hE⟩, by rw [oB, ht]; exact hW⟩, hS.F ht⟩) hS.2.2 dX4_readItem_80
  rw [if_neg c_10] at hR
  have i_2 := lv_neT c_2 (a := 97) rfl
  have i_4 := lv_neT c_4 (a := 102) rfl
  have i_6 := lv_neT c_6 (a := 107) rfl
  have i_8 := lv_neT c_8 (a := 114) rfl
  have i_10 := lv_neT c_10 (a := 115) rfl
  refine lv_lookup (tgt := 81) (off := 74) hx hb dX4_readItem_7 (by decide) (show Op.lookupswitch.offset [(97, 59), (102, 54), (107, 64), (114, 49), (115, 69)] 74 (f_X7_letter p0k_0 p0k_1 p0k_2 p0kt_0).toInt = 74 by rw [lv_osw (a := 97) c_2 rfl, lv_osw (a := 102) c_4 rfl, lv_osw (a := 107) c_6 rfl, lv_osw (a := 114) c_8 rfl, lv_osw (a := 115) c_10 rfl]; rfl) (by decide) ?_
  refine lv_iconst (v := (0 : Int32)) hx hb dX4_readItem_81 (by decide) ?_
  subst hR
  exact W.zret (v := (0 : Int32)) hx hb hr (nb01 (Or.inl rfl)) (fun t ht hW9 => ⟨⟨(0 : Int32), Ω, rfl, ⟨rfl, (Or.inl rfl), h_p0k, h_p0b, hE⟩, by rw [oB, ht]; exact hW⟩, hS.F ht⟩) hS.2.2 dX4_readItem_82
set_option maxHeartbeats 4000000 in
set_option maxRecDepth 100000 in
theorem c_X4_parse (l : Launch) (G : Gm) (A : Nat → Prop) (Ω : Om) (p0 : Nat) (p0k : Nat) (p0kt : Nat) (p0b : Nat) (p0k_0 : Int32) (p0k_1 : Int32) (p0k_2 : Int32) (p0kt_0 : Fn) (p0kt_1 : Int32) (p0b_0 : Blk) (hd_p0_p0k : p0 + 1 ≤ p0k ∨ p0k + 1 ≤ p0) (hd_p0_p0kt : p0 + 1 ≤ p0kt ∨ p0kt + 2 ≤ p0) (hd_p0_p0b : p0 + 1 ≤ p0b ∨ p0b + 13 ≤ p0) (hd_p0k_p0kt : p0k + 1 ≤ p0kt ∨ p0kt + 2 ≤ p0k) (hd_p0k_p0b : p0k + 1 ≤ p0b ∨ p0b + 13 ≤ p0k) (hd_p0kt_p0b : p0kt + 2 ≤ p0b ∨ p0b + 13 ≤ p0kt) (hT_p0kt : 0 ≤ p0kt_1.toInt ∧ p0kt_1.toInt ≤ 160) (hB_p0b : BlkInv p0b_0) (h_p0 : inPar G Ω p0 p0k p0b) (h_p0k : inTok G Ω p0k p0kt p0k_0 p0k_1 p0k_2) (h_p0kt : inTxt G Ω p0kt p0kt_0 p0kt_1) (h_p0b : inBlk G Ω p0b p0b_0) : Met l yX4_parse (wz yX4_parse cX4_parse 2 (some .int)) ({ frames := 5, cells := 0, slots := 0, locals := 110 } : Room) (va_Pc [.ref p0] (oS G A Ω)) (va_Qi (fun (r : Int32) (Ω1 : Om) => r = (f_X4_parse p0k_0 p0k_2 p0kt_0 p0kt_1 p0b_0).1 ∧ inTok G Ω1 p0k p0kt ((f_X4_parse p0k_0 p0k_2 p0kt_0 p0kt_1 p0b_0).2.1) ((f_X4_parse p0k_0 p0k_2 p0kt_0 p0kt_1 p0b_0).2.2.1) ((f_X4_parse p0k_0 p0k_2 p0kt_0 p0kt_1 p0b_0).2.2.2.1) ∧ inBlk G Ω1 p0b ((f_X4_parse p0k_0 p0k_2 p0kt_0 p0kt_1 p0b_0).2.2.2.2) ∧ (∀ q : Nat, (q < p0k ∨ p0k + 1 ≤ q) → (q < p0b ∨ p0b + 13 ≤ q) → Ω1 q = Ω q)) (oB G A) A) 0 0 A := by
  refine Met.ofW (cc := cX4_parse) (maxL := 2) (ret := (some .int)) (by decide) rfl ?_
  intro p e s m args below meth c s₁ B hml hv
  obtain ⟨rfl, hW, hK, hN, hZ⟩ := hv
  have hx := B.exec
  have hb := B.bytes
  have hr := B.returns
  have hts : ∀ w ∈ gt, w.before _ s = true := fun w hw => atoms_spec (ws := wz yX4_parse cX4_parse 2 (some .int)) B.pre w (List.mem_cons_of_mem _ hw)
  have hown : s.vm.findClass RX4 = some m.cls := findClass_of_methodNamed B.named
  have hlocks := B.notSynchronized
  have hA : ∀ q, A q → A q := fun _ h => h
  have hS : va_S A s.heap s.heap [] := va_S.rf
  have hS0 := hS
  have hl := lv_entry ([.ref p0]) (n := 2) (Nat.le_of_ble_eq_true rfl)
  rw [lg_entry_eq]
  generalize (lg_sl ([.ref p0]) ++ List.replicate (2 - (lg_sl ([.ref p0])).length) Slot.unset).toArray = ls at hl ⊢
  have hl : lv_has ls 2 [(0, .ref p0)] := hl
  have hE : ∀ q : Nat, (q < p0k ∨ p0k + 1 ≤ q) → (q < p0b ∨ p0b + 13 ≤ q) → Ω q = Ω q := by intros; rfl
  generalize hR : (f_X4_parse p0k_0 p0k_2 p0kt_0 p0kt_1 p0b_0) = R
  rw [f_X4_parse] at hR
  refine lv_aload_n hx hb dX4_parse_0 rfl (lv_at hl 0 rfl) ?_
  refine o_get hx hb hts hown hK hW (inPar_o h_p0) rfl ig4 1 (by decide) fl_X4_12 rfl dX4_parse_1 ?_
  refine o_Vv (rest := []) (As := []) (n := 0) hx hb hml hown hts hK hN hZ hW hS hA (c_X0_empty l G A Ω p0b p0b_0 hB_p0b h_p0b) (inBlk_o h_p0b) rfl (good_V ml_X4_27 im_X0_empty se_X0_empty ini_X0 co_X0_empty) (by decide +kernel) ⟨Nat.zero_le _, Nat.zero_le _⟩ hl.1 (Nat.le_of_ble_eq_true rfl) rfl rfl dX4_parse_4 (fun Ω_1 H locs hp hW hS => ?_)
  obtain ⟨h_p0b, hF_1⟩ := hp
  have h_p0 := h_p0.keep (fun q h1 h2 => hF_1 q (by omega))
  have h_p0k := h_p0k.keep (fun q h1 h2 => hF_1 q (by omega))
  have h_p0kt := h_p0kt.keep (fun q h1 h2 => hF_1 q (by omega))
  have hE : ∀ q : Nat, (q < p0k ∨ p0k + 1 ≤ q) → (q < p0b ∨ p0b + 13 ≤ q) → Ω_1 q = Ω q := fun q g0 g1 => (hF_1 q (by omega)).trans (hE q g0 g1)
  refine lv_aload_n hx hb dX4_parse_7 rfl (lv_at hl 0 rfl) ?_
  refine o_get hx hb hts hown hK hW (inPar_o h_p0) rfl ig4 0 (by decide) fl_X4_23 rfl dX4_parse_8 ?_
  refine o_Vv (rest := []) (As := []) (n := 0) hx hb hml hown hts hK hN hZ hW hS hA (c_X7_rewind l G A Ω_1 p0k p0kt p0k_0 p0k_1 p0k_2 (by omega) h_p0k) (inTok_o h_p0k) rfl (good_V ml_X4_30 im_X7_rewind se_X7_rewind ini_X7 co_X7_rewind) (by decide +kernel) ⟨Nat.zero_le _, Nat.zero_le _⟩ hl.1 (Nat.le_of_ble_eq_true rfl) rfl rfl dX4_parse_11 (fun Ω_2 H locs hp hW hS => ?_)
  obtain ⟨h_p0k, hF_2⟩ := hp
  have h_p0 := h_p0.keep (fun q h1 h2 => hF_2 q (by omega))
  have h_p0kt := h_p0kt.keep (fun q h1 h2 => hF_2 q (by omega))
  have h_p0b := h_p0b.keep (fun q h1 h2 => hF_2 q (by omega))
  have hE : ∀ q : Nat, (q < p0k ∨ p0k + 1 ≤ q) → (q < p0b ∨ p0b + 13 ≤ q) → Ω_2 q = Ω q := fun q g0 g1 => (hF_2 q (by omega)).trans (hE q g0 g1)
  refine lv_iconst (v := (0 : Int32)) hx hb dX4_parse_14 (by decide) ?_
  refine lv_istore_n (lv' := [(1, .int (0 : Int32)), (0, .ref p0)]) hx hb dX4_parse_15 rfl hl (by decide) rfl (fun ls hl => ?_)
  have L16 : ∀ (n_4 : Nat) (x1_3 : Int32) (p0k_0_3 : Int32) (p0k_1_3 : Int32) (p0k_2_3 : Int32) (p0b_0_3 : Blk) (Ω_5 : Om) (H : Heap) (locs : List Loc), (0 ≤ x1_3.toInt ∧ x1_3.toInt ≤ 161 ∧ 161 - x1_3.toInt < n_4) → (0 ≤ p0k_1_3.toInt ∧ p0k_1_3.toInt ≤ p0kt_1.toInt) → (BlkInv p0b_0_3) → inPar G Ω_5 p0 p0k p0b → inTok G Ω_5 p0k p0kt p0k_0_3 p0k_1_3 p0k_2_3 → inTxt G Ω_5 p0kt p0kt_0 p0kt_1 → inBlk G Ω_5 p0b p0b_0_3 → (∀ q : Nat, (q < p0k ∨ p0k + 1 ≤ q) → (q < p0b ∨ p0b + 13 ≤ q) → Ω_5 q = Ω q) → oW G A Ω_5 H → va_S A s.heap H locs → ∀ ls : Array Slot, lv_has ls 2 [(0, .ref p0), (1, .int x1_3)] → (f_X4_parse_L16 p0kt_0 p0kt_1 n_4 x1_3 p0k_0_3 p0k_1_3 p0k_2_3 p0b_0_3) = R → W p l e (headSpec (wz yX4_parse cX4_parse 2 (some .int)) ({ frames := 5, cells := 0, slots := 0, locals := 110 } : Room)).room s m ([.ref p0] : List Value).toArray below meth c H locs 0 0 (MQ below (va_Qi (fun (r : Int32) (Ω1 : Om) => r = R.1 ∧ inTok G Ω1 p0k p0kt (R.2.1) (R.2.2.1) (R.2.2.2.1) ∧ inBlk G Ω1 p0b (R.2.2.2.2) ∧ (∀ q : Nat, (q < p0k ∨ p0k + 1 ≤ q) → (q < p0b ∨ p0b + 13 ≤ q) → Ω1 q = Ω q)) (oB G A) A) ([.ref p0] : List Value).toArray s 0 0 A) (F0 m 16 ls []) := by
    intro n_4
    induction n_4 with
    | zero =>
      intro x1_3 p0k_0_3 p0k_1_3 p0k_2_3 p0b_0_3 Ω_5 H locs v_16_0 v_16_1 v_16_2 h_p0 h_p0k h_p0kt h_p0b hE hW hS ls hl hR
      exfalso
      omega
    | succ n_4 ih16 =>
      intro x1_3 p0k_0_3 p0k_1_3 p0k_2_3 p0b_0_3 Ω_5 H locs v_16_0 v_16_1 v_16_2 h_p0 h_p0k h_p0kt h_p0b hE hW hS ls hl hR
      rw [f_X4_parse_L16] at hR
      refine lv_iload_n hx hb dX4_parse_16 rfl (lv_at hl 1 rfl) ?_
      refine lv_sipush (v := (160 : Int32)) hx hb dX4_parse_17 (by decide) ?_
      have j_7 : (160 : Int32).toInt = 160 := by decide
      refine lv_icmp_gt (tgt := 59) hx hb dX4_parse_20 (by decide) (fun c_6 => ?_) (fun c_6 => ?_)
      · rw [if_pos c_6] at hR
        have i_6 := rlt c_6
        refine lv_bipush (v := (-10 : Int32)) hx hb dX4_parse_59 (by decide) ?_
        refine lv_aload_n hx hb dX4_parse_61 rfl (lv_at hl 0 rfl) ?_
        refine o_get hx hb hts hown hK hW (inPar_o h_p0) rfl ig4 0 (by decide) fl_X4_23 rfl dX4_parse_62 ?_
        refine o_get hx hb hts hown hK hW (inTok_o h_p0k) rfl ig7 1 (by decide) fl_X4_44 rfl dX4_parse_65 ?_
        refine lv_isub hx hb dX4_parse_68 ?_
        subst hR
        exact W.iret (v := ((-10 : Int32) - p0k_0_3)) hx hb hr (fun t ht hW9 => ⟨⟨((-10 : Int32) - p0k_0_3), Ω_5, rfl, ⟨rfl, h_p0k, h_p0b, hE⟩, by rw [oB, ht]; exact hW⟩, hS.F ht⟩) hS.2.2 dX4_parse_69
      · rw [if_neg c_6] at hR
        have i_6 := rnlt c_6
        refine lv_aload_n hx hb dX4_parse_23 rfl (lv_at hl 0 rfl) ?_
        refine o_get hx hb hts hown hK hW (inPar_o h_p0) rfl ig4 0 (by decide) fl_X4_23 rfl dX4_parse_24 ?_
        refine o_Vv (rest := []) (As := []) (n := 0) hx hb hml hown hts hK hN hZ hW hS hA (c_X7_advance l G A Ω_5 p0k p0kt p0k_0_3 p0k_1_3 p0k_2_3 p0kt_0 p0kt_1 (by omega) (by omega) (by omega) h_p0k h_p0kt) (inTok_o h_p0k) rfl (good_V ml_X4_33 im_X7_advance se_X7_advance ini_X7 co_X7_advance) (by decide +kernel) ⟨Nat.zero_le _, Nat.zero_le _⟩ hl.1 (Nat.le_of_ble_eq_true rfl) rfl rfl dX4_parse_27 (fun Ω_8 H locs hp hW hS => ?_)
        obtain ⟨h_p0k, hF_8⟩ := hp
        have h_p0 := h_p0.keep (fun q h1 h2 => hF_8 q (by omega))
        have h_p0kt := h_p0kt.keep (fun q h1 h2 => hF_8 q (by omega))
        have h_p0b := h_p0b.keep (fun q h1 h2 => hF_8 q (by omega))
        have hE : ∀ q : Nat, (q < p0k ∨ p0k + 1 ≤ q) → (q < p0b ∨ p0b + 13 ≤ q) → Ω_8 q = Ω q := fun q g0 g1 => (hF_8 q (by omega)).trans (hE q g0 g1)
        have qt_8 : 0 ≤ (f_X7_advance p0k_1_3 p0kt_0 p0kt_1).1.toInt ∧ (f_X7_advance p0k_1_3 p0kt_0 p0kt_1).1.toInt ≤ (f_X7_advance p0k_1_3 p0kt_0 p0kt_1).2.1.toInt ∧ (f_X7_advance p0k_1_3 p0kt_0 p0kt_1).2.1.toInt ≤ p0kt_1.toInt := R_advance hT_p0kt (by omega)
        generalize (f_X7_advance p0k_1_3 p0kt_0 p0kt_1) = Z_8 at h_p0k hR qt_8
        obtain ⟨z8_0, z8_1, z8_2⟩ := Z_8
        dsimp only at h_p0k hR qt_8
        rw [f_X4_parse_C30] at hR
        refine lv_aload_n hx hb dX4_parse_30 rfl (lv_at hl 0 rfl) ?_
        refine o_get hx hb hts hown hK hW (inPar_o h_p0) rfl ig4 0 (by decide) fl_X4_23 rfl dX4_parse_31 ?_
        refine o_get hx hb hts hown hK hW (inTok_o h_p0k) rfl ig7 3 (by decide) fl_X4_36 rfl dX4_parse_34 ?_
        refine lv_iconst (v := (4 : Int32)) hx hb dX4_parse_37 (by decide) ?_
        have j_10 : (4 : Int32).toInt = 4 := by decide
        refine lv_icmp_ne (tgt := 43) hx hb dX4_parse_38 (by decide) (fun c_9 => ?_) (fun c_9 => ?_)
        · rw [if_neg c_9] at hR
          have i_9 := rne c_9
          refine lv_aload_n hx hb dX4_parse_43 rfl (lv_at hl 0 rfl) ?_
          refine o_Vi (rest := []) (As := []) (n := 0) hx hb hml hown hts hK hN hZ hW hS hA (c_X4_readItem l G A Ω_8 p0 p0k p0kt p0b z8_0 z8_1 z8_2 p0kt_0 p0kt_1 p0b_0_3 (by omega) (by omega) (by omega) (by omega) (by omega) (by omega) (by omega) (by assumption) (by omega) h_p0 h_p0k h_p0kt h_p0b) (inPar_o h_p0) rfl (good_V ml_X4_40 im_X4_readItem se_X4_readItem ini_X4 co_X4_readItem) (by decide +kernel) ⟨Nat.zero_le _, Nat.zero_le _⟩ hl.1 (Nat.le_of_ble_eq_true rfl) rfl rfl dX4_parse_44 (fun r Ω_11 H locs hp hW hS => ?_)
          obtain ⟨rfl, hz_11, h_p0k, h_p0b, hF_11⟩ := hp
          have h_p0 := h_p0.keep (fun q h1 h2 => hF_11 q (by omega) (by omega))
          have h_p0kt := h_p0kt.keep (fun q h1 h2 => hF_11 q (by omega) (by omega))
          have hE : ∀ q : Nat, (q < p0k ∨ p0k + 1 ≤ q) → (q < p0b ∨ p0b + 13 ≤ q) → Ω_11 q = Ω q := fun q g0 g1 => (hF_11 q (by omega) (by omega)).trans (hE q g0 g1)
          have qt_11 : 0 ≤ (f_X4_readItem z8_0 z8_1 z8_2 p0kt_0 p0kt_1 p0b_0_3).2.1.toInt ∧ (f_X4_readItem z8_0 z8_1 z8_2 p0kt_0 p0kt_1 p0b_0_3).2.1.toInt ≤ (f_X4_readItem z8_0 z8_1 z8_2 p0kt_0 p0kt_1 p0b_0_3).2.2.1.toInt ∧ (f_X4_readItem z8_0 z8_1 z8_2 p0kt_0 p0kt_1 p0b_0_3).2.2.1.toInt ≤ p0kt_1.toInt := (R_readItem (by assumption) hT_p0kt (by omega)).1
          have qb_11 : BlkInv (f_X4_readItem z8_0 z8_1 z8_2 p0kt_0 p0kt_1 p0b_0_3).2.2.2.2 := (R_readItem (by assumption) hT_p0kt (by omega)).2
          generalize (f_X4_readItem z8_0 z8_1 z8_2 p0kt_0 p0kt_1 p0b_0_3) = Z_11 at h_p0k h_p0b hR qt_11 qb_11 hz_11 ⊢
          obtain ⟨z11_0, z11_1, z11_2, z11_3, z11_4⟩ := Z_11
          dsimp only at h_p0k h_p0b hR qt_11 qb_11 hz_11 ⊢
          rw [f_X4_parse_C47] at hR
          have j_13 : (0 : Int32).toInt = 0 := by decide
          refine lv_if_ne (tgt := 53) hx hb dX4_parse_47 (by decide) (fun c_12 => ?_) (fun c_12 => ?_)
          · rw [if_neg c_12] at hR
            have i_12 := rne c_12
            refine lv_iinc (v := (x1_3 + (1 : Int32))) (lv' := [(1, .int (x1_3 + (1 : Int32))), (0, .ref p0)]) hx hb dX4_parse_53 hl (k := 1) rfl rfl (by decide) rfl (fun ls hl => ?_)
            refine lv_goto (tgt := 16) hx hb dX4_parse_56 (by decide) ?_
            have j_14 : (1 : Int32).toInt = 1 := by decide
            try have j_15 : (x1_3 + (1 : Int32)).toInt = x1_3.toInt + (1 : Int32).toInt := fb_addI (by omega) (by omega)
            have qr : (f_X7_rewind).toInt = 0 := by decide
            have qb0 : BlkInv z11_4 := by first | assumption | exact BI_empty hB_p0b
            exact ih16 (x1_3 + (1 : Int32)) z11_1 z11_2 z11_3 z11_4 Ω_11 H locs (by omega) (by omega) (by assumption) h_p0 h_p0k h_p0kt h_p0b hE hW hS ls (lv_sub hl [1, 0] rfl) hR
          · rw [if_pos c_12] at hR
            have i_12 := congrArg Int32.toInt c_12
            refine lv_goto (tgt := 59) hx hb dX4_parse_50 (by decide) ?_
            refine lv_bipush (v := (-10 : Int32)) hx hb dX4_parse_59 (by decide) ?_
            refine lv_aload_n hx hb dX4_parse_61 rfl (lv_at hl 0 rfl) ?_
            refine o_get hx hb hts hown hK hW (inPar_o h_p0) rfl ig4 0 (by decide) fl_X4_23 rfl dX4_parse_62 ?_
            refine o_get hx hb hts hown hK hW (inTok_o h_p0k) rfl ig7 1 (by decide) fl_X4_44 rfl dX4_parse_65 ?_
            refine lv_isub hx hb dX4_parse_68 ?_
            subst hR
            exact W.iret (v := ((-10 : Int32) - z11_1)) hx hb hr (fun t ht hW9 => ⟨⟨((-10 : Int32) - z11_1), Ω_11, rfl, ⟨rfl, h_p0k, h_p0b, hE⟩, by rw [oB, ht]; exact hW⟩, hS.F ht⟩) hS.2.2 dX4_parse_69
        · rw [if_pos c_9] at hR
          have i_9 := congrArg Int32.toInt c_9
          refine lv_iload_n hx hb dX4_parse_41 rfl (lv_at hl 1 rfl) ?_
          subst hR
          exact W.iret (v := x1_3) hx hb hr (fun t ht hW9 => ⟨⟨x1_3, Ω_8, rfl, ⟨rfl, h_p0k, h_p0b, hE⟩, by rw [oB, ht]; exact hW⟩, hS.F ht⟩) hS.2.2 dX4_parse_42
  have j_16 : (0 : Int32).toInt = 0 := by decide
  have qr : (f_X7_rewind).toInt = 0 := by decide
  have qb0 : BlkInv (f_X0_empty p0b_0) := by first | assumption | exact BI_empty hB_p0b
  exact L16 4000 (0 : Int32) p0k_0 f_X7_rewind p0k_2 (f_X0_empty p0b_0) Ω_2 H locs (by omega) (by omega) (by assumption) h_p0 h_p0k h_p0kt h_p0b hE hW hS ls (lv_sub hl [1, 0] rfl) hR
set_option maxHeartbeats 4000000 in
set_option maxRecDepth 100000 in
theorem c_X2_rememberV (l : Launch) (G : Gm) (A : Nat → Prop) (Ω : Om) (p0 : Nat) (p0e : Nat) (p1 : Nat) (p0_0 : Nat → Option Nat) (p0_1 : Int32) (p0_2 : Int32) (p0e_0 : Int32) (p0e_1 : Int32) (p0ed_0 : Fn) (p0ed_1 : Fn) (p0ed_2 : Fn) (p0ed_3 : Fn) (p0em_0 : Fn) (p0em_1 : Fn) (p0em_2 : Fn) (p0em_3 : Fn) (p0ej_0 : Int32) (p0ej_1 : Fn) (p0ej_2 : Fn) (p0ej_3 : Fn) (p1_0 : Int32) (p1_1 : Int32) (p1d_0 : Fn) (p1d_1 : Fn) (p1d_2 : Fn) (p1d_3 : Fn) (p1m_0 : Fn) (p1m_1 : Fn) (p1m_2 : Fn) (p1m_3 : Fn) (p1j_0 : Int32) (p1j_1 : Fn) (p1j_2 : Fn) (p1j_3 : Fn) (hd_p0_p0e : p0 + 2 ≤ p0e ∨ p0e + 15 ≤ p0) (hd_p0_p1 : p0 + 2 ≤ p1 ∨ p1 + 15 ≤ p0) (hd_p0e_p1 : p0e + 15 ≤ p1 ∨ p1 + 15 ≤ p0e) (hq : p0_0 p0_1.toNatClampNeg = some p0e) (hx1 : 0 ≤ p0_1.toInt ∧ p0_1.toInt < 6) (h_p0 : inHisV G Ω p0 p0_0 p0_1 p0_2) (h_p0e : inSitO G Ω p0e p0e_0 p0e_1) (h_p0ed : inDev G Ω (p0e + 1) p0ed_0 p0ed_1 p0ed_2 p0ed_3) (h_p0em : inDev G Ω (p0e + 6) p0em_0 p0em_1 p0em_2 p0em_3) (h_p0ej : inJou G Ω (p0e + 11) p0ej_0 p0ej_1 p0ej_2 p0ej_3) (h_p1 : inSitO G Ω p1 p1_0 p1_1) (h_p1d : inDev G Ω (p1 + 1) p1d_0 p1d_1 p1d_2 p1d_3) (h_p1m : inDev G Ω (p1 + 6) p1m_0 p1m_1 p1m_2 p1m_3) (h_p1j : inJou G Ω (p1 + 11) p1j_0 p1j_1 p1j_2 p1j_3) : Met l yX2_remember (wz yX2_remember cX2_remember 2 none) ({ frames := 3, cells := 0, slots := 0, locals := 103 } : Room) (va_Pc [.ref p0, .ref p1] (oS G A Ω)) (va_Qv (fun (Ω1 : Om) => inHisV G Ω1 p0 p0_0 ((f_X2_rememberV p0_1 p0_2 p0ed_0 p0ed_1 p0ed_2 p0ed_3 p0em_0 p0em_1 p0em_2 p0em_3 p0ej_1 p0ej_2 p0ej_3 p1_0 p1_1 p1d_0 p1d_1 p1d_2 p1d_3 p1m_0 p1m_1 p1m_2 p1m_3 p1j_0 p1j_1 p1j_2 p1j_3).1) ((f_X2_rememberV p0_1 p0_2 p0ed_0 p0ed_1 p0ed_2 p0ed_3 p0em_0 p0em_1 p0em_2 p0em_3 p0ej_1 p0ej_2 p0ej_3 p1_0 p1_1 p1d_0 p1d_1 p1d_2 p1d_3 p1m_0 p1m_1 p1m_2 p1m_3 p1j_0 p1j_1 p1j_2 p1j_3).2.1) ∧ inSitO G Ω1 p0e ((f_X2_rememberV p0_1 p0_2 p0ed_0 p0ed_1 p0ed_2 p0ed_3 p0em_0 p0em_1 p0em_2 p0em_3 p0ej_1 p0ej_2 p0ej_3 p1_0 p1_1 p1d_0 p1d_1 p1d_2 p1d_3 p1m_0 p1m_1 p1m_2 p1m_3 p1j_0 p1j_1 p1j_2 p1j_3).2.2.1) ((f_X2_rememberV p0_1 p0_2 p0ed_0 p0ed_1 p0ed_2 p0ed_3 p0em_0 p0em_1 p0em_2 p0em_3 p0ej_1 p0ej_2 p0ej_3 p1_0 p1_1 p1d_0 p1d_1 p1d_2 p1d_3 p1m_0 p1m_1 p1m_2 p1m_3 p1j_0 p1j_1 p1j_2 p1j_3).2.2.2.1) ∧ inDev G Ω1 (p0e + 1) ((f_X2_rememberV p0_1 p0_2 p0ed_0 p0ed_1 p0ed_2 p0ed_3 p0em_0 p0em_1 p0em_2 p0em_3 p0ej_1 p0ej_2 p0ej_3 p1_0 p1_1 p1d_0 p1d_1 p1d_2 p1d_3 p1m_0 p1m_1 p1m_2 p1m_3 p1j_0 p1j_1 p1j_2 p1j_3).2.2.2.2.1) ((f_X2_rememberV p0_1 p0_2 p0ed_0 p0ed_1 p0ed_2 p0ed_3 p0em_0 p0em_1 p0em_2 p0em_3 p0ej_1 p0ej_2 p0ej_3 p1_0 p1_1 p1d_0 p1d_1 p1d_2 p1d_3 p1m_0 p1m_1 p1m_2 p1m_3 p1j_0 p1j_1 p1j_2 p1j_3).2.2.2.2.2.1) ((f_X2_rememberV p0_1 p0_2 p0ed_0 p0ed_1 p0ed_2 p0ed_3 p0em_0 p0em_1 p0em_2 p0em_3 p0ej_1 p0ej_2 p0ej_3 p1_0 p1_1 p1d_0 p1d_1 p1d_2 p1d_3 p1m_0 p1m_1 p1m_2 p1m_3 p1j_0 p1j_1 p1j_2 p1j_3).2.2.2.2.2.2.1) ((f_X2_rememberV p0_1 p0_2 p0ed_0 p0ed_1 p0ed_2 p0ed_3 p0em_0 p0em_1 p0em_2 p0em_3 p0ej_1 p0ej_2 p0ej_3 p1_0 p1_1 p1d_0 p1d_1 p1d_2 p1d_3 p1m_0 p1m_1 p1m_2 p1m_3 p1j_0 p1j_1 p1j_2 p1j_3).2.2.2.2.2.2.2.1) ∧ inDev G Ω1 (p0e + 6) ((f_X2_rememberV p0_1 p0_2 p0ed_0 p0ed_1 p0ed_2 p0ed_3 p0em_0 p0em_1 p0em_2 p0em_3 p0ej_1 p0ej_2 p0ej_3 p1_0 p1_1 p1d_0 p1d_1 p1d_2 p1d_3 p1m_0 p1m_1 p1m_2 p1m_3 p1j_0 p1j_1 p1j_2 p1j_3).2.2.2.2.2.2.2.2.1) ((f_X2_rememberV p0_1 p0_2 p0ed_0 p0ed_1 p0ed_2 p0ed_3 p0em_0 p0em_1 p0em_2 p0em_3 p0ej_1 p0ej_2 p0ej_3 p1_0 p1_1 p1d_0 p1d_1 p1d_2 p1d_3 p1m_0 p1m_1 p1m_2 p1m_3 p1j_0 p1j_1 p1j_2 p1j_3).2.2.2.2.2.2.2.2.2.1) ((f_X2_rememberV p0_1 p0_2 p0ed_0 p0ed_1 p0ed_2 p0ed_3 p0em_0 p0em_1 p0em_2 p0em_3 p0ej_1 p0ej_2 p0ej_3 p1_0 p1_1 p1d_0 p1d_1 p1d_2 p1d_3 p1m_0 p1m_1 p1m_2 p1m_3 p1j_0 p1j_1 p1j_2 p1j_3).2.2.2.2.2.2.2.2.2.2.1) ((f_X2_rememberV p0_1 p0_2 p0ed_0 p0ed_1 p0ed_2 p0ed_3 p0em_0 p0em_1 p0em_2 p0em_3 p0ej_1 p0ej_2 p0ej_3 p1_0 p1_1 p1d_0 p1d_1 p1d_2 p1d_3 p1m_0 p1m_1 p1m_2 p1m_3 p1j_0 p1j_1 p1j_2 p1j_3).2.2.2.2.2.2.2.2.2.2.2.1) ∧ inJou G Ω1 (p0e + 11) ((f_X2_rememberV p0_1 p0_2 p0ed_0 p0ed_1 p0ed_2 p0ed_3 p0em_0 p0em_1 p0em_2 p0em_3 p0ej_1 p0ej_2 p0ej_3 p1_0 p1_1 p1d_0 p1d_1 p1d_2 p1d_3 p1m_0 p1m_1 p1m_2 p1m_3 p1j_0 p1j_1 p1j_2 p1j_3).2.2.2.2.2.2.2.2.2.2.2.2.1) ((f_X2_rememberV p0_1 p0_2 p0ed_0 p0ed_1 p0ed_2 p0ed_3 p0em_0 p0em_1 p0em_2 p0em_3 p0ej_1 p0ej_2 p0ej_3 p1_0 p1_1 p1d_0 p1d_1 p1d_2 p1d_3 p1m_0 p1m_1 p1m_2 p1m_3 p1j_0 p1j_1 p1j_2 p1j_3).2.2.2.2.2.2.2.2.2.2.2.2.2.1) ((f_X2_rememberV p0_1 p0_2 p0ed_0 p0ed_1 p0ed_2 p0ed_3 p0em_0 p0em_1 p0em_2 p0em_3 p0ej_1 p0ej_2 p0ej_3 p1_0 p1_1 p1d_0 p1d_1 p1d_2 p1d_3 p1m_0 p1m_1 p1m_2 p1m_3 p1j_0 p1j_1 p1j_2 p1j_3).2.2.2.2.2.2.2.2.2.2.2.2.2.2.1) ((f_X2_rememberV p0_1 p0_2 p0ed_0 p0ed_1 p0ed_2 p0ed_3 p0em_0 p0em_1 p0em_2 p0em_3 p0ej_1 p0ej_2 p0ej_3 p1_0 p1_1 p1d_0 p1d_1 p1d_2 p1d_3 p1m_0 p1m_1 p1m_2 p1m_3 p1j_0 p1j_1 p1j_2 p1j_3).2.2.2.2.2.2.2.2.2.2.2.2.2.2.2) ∧ (∀ q : Nat, (q < p0 ∨ p0 + 2 ≤ q) → (q < p0e ∨ p0e + 1 ≤ q) → (q < (p0e + 1) ∨ (p0e + 1) + 5 ≤ q) → (q < (p0e + 6) ∨ (p0e + 6) + 5 ≤ q) → (q < (p0e + 11) ∨ (p0e + 11) + 4 ≤ q) → Ω1 q = Ω q)) (oB G A) A) 0 0 A := by
  refine Met.ofW (cc := cX2_remember) (maxL := 2) (ret := none) (by decide) rfl ?_
  intro p e s m args below meth c s₁ B hml hv
  obtain ⟨rfl, hW, hK, hN, hZ⟩ := hv
  have hx := B.exec
  have hb := B.bytes
  have hr := B.returns
  have hts : ∀ w ∈ gt, w.before _ s = true := fun w hw => atoms_spec (ws := wz yX2_remember cX2_remember 2 none) B.pre w (List.mem_cons_of_mem _ hw)
  have hown : s.vm.findClass RX2 = some m.cls := findClass_of_methodNamed B.named
  have hlocks := B.notSynchronized
  have hA : ∀ q, A q → A q := fun _ h => h
  have hS : va_S A s.heap s.heap [] := va_S.rf
  have hS0 := hS
  have hl := lv_entry ([.ref p0, .ref p1]) (n := 2) (Nat.le_of_ble_eq_true rfl)
  rw [lg_entry_eq]
  generalize (lg_sl ([.ref p0, .ref p1]) ++ List.replicate (2 - (lg_sl ([.ref p0, .ref p1])).length) Slot.unset).toArray = ls at hl ⊢
  have hl : lv_has ls 2 [(0, .ref p0), (1, .ref p1)] := hl
  have hE : ∀ q : Nat, (q < p0 ∨ p0 + 2 ≤ q) → (q < p0e ∨ p0e + 1 ≤ q) → (q < (p0e + 1) ∨ (p0e + 1) + 5 ≤ q) → (q < (p0e + 6) ∨ (p0e + 6) + 5 ≤ q) → (q < (p0e + 11) ∨ (p0e + 11) + 4 ≤ q) → Ω q = Ω q := by intros; rfl
  generalize hR : (f_X2_rememberV p0_1 p0_2 p0ed_0 p0ed_1 p0ed_2 p0ed_3 p0em_0 p0em_1 p0em_2 p0em_3 p0ej_1 p0ej_2 p0ej_3 p1_0 p1_1 p1d_0 p1d_1 p1d_2 p1d_3 p1m_0 p1m_1 p1m_2 p1m_3 p1j_0 p1j_1 p1j_2 p1j_3) = R
  rw [f_X2_rememberV] at hR
  refine lv_aload_n hx hb dX2_remember_0 rfl (lv_at hl 0 rfl) ?_
  refine o_get hx hb hts hown hK hW (inHisV_o h_p0) rfl ig2 0 (by decide) fl_X2_11 rfl dX2_remember_1 ?_
  refine lv_aload_n hx hb dX2_remember_4 rfl (lv_at hl 0 rfl) ?_
  refine o_get hx hb hts hown hK hW (inHisV_o h_p0) rfl ig2 1 (by decide) fl_X2_22 rfl dX2_remember_5 ?_
  refine o_aldq2 hx hb hK hW (inHisV_a0 h_p0) hq (vp_in_iff.mpr ⟨by omega, by omega⟩) dX2_remember_8 ?_
  refine lv_aload_n hx hb dX2_remember_9 rfl (lv_at hl 1 rfl) ?_
  refine o_Vv (rest := []) (As := [.ref p1]) (n := 1) hx hb hml hown hts hK hN hZ hW hS hA (c_X5_copyFrom l G A Ω p0e p1 p0e_0 p0e_1 p0ed_0 p0ed_1 p0ed_2 p0ed_3 p0em_0 p0em_1 p0em_2 p0em_3 p0ej_0 p0ej_1 p0ej_2 p0ej_3 p1_0 p1_1 p1d_0 p1d_1 p1d_2 p1d_3 p1m_0 p1m_1 p1m_2 p1m_3 p1j_0 p1j_1 p1j_2 p1j_3 (by omega) h_p0e h_p0ed h_p0em h_p0ej h_p1 h_p1d h_p1m h_p1j) (inSitO_o h_p0e) rfl (good_V ml_X2_25 im_X5_copyFrom se_X5_copyFrom ini_X5 co_X5_copyFrom) (by decide +kernel) ⟨Nat.zero_le _, Nat.zero_le _⟩ hl.1 (Nat.le_of_ble_eq_true rfl) rfl rfl dX2_remember_10 (fun Ω_1 H locs hp hW hS => ?_)
  obtain ⟨h_p0e, h_p0ed, h_p0em, h_p0ej, hF_1⟩ := hp
  have h_p0 := h_p0.keep (fun q h1 h2 => hF_1 q (by omega) (by omega) (by omega) (by omega))
  have h_p1 := h_p1.keep (fun q h1 h2 => hF_1 q (by omega) (by omega) (by omega) (by omega))
  have h_p1d := h_p1d.keep (fun q h1 h2 => hF_1 q (by omega) (by omega) (by omega) (by omega))
  have h_p1m := h_p1m.keep (fun q h1 h2 => hF_1 q (by omega) (by omega) (by omega) (by omega))
  have h_p1j := h_p1j.keep (fun q h1 h2 => hF_1 q (by omega) (by omega) (by omega) (by omega))
  have hE : ∀ q : Nat, (q < p0 ∨ p0 + 2 ≤ q) → (q < p0e ∨ p0e + 1 ≤ q) → (q < (p0e + 1) ∨ (p0e + 1) + 5 ≤ q) → (q < (p0e + 6) ∨ (p0e + 6) + 5 ≤ q) → (q < (p0e + 11) ∨ (p0e + 11) + 4 ≤ q) → Ω_1 q = Ω q := fun q g0 g1 g2 g3 g4 => (hF_1 q (by omega) (by omega) (by omega) (by omega)).trans (hE q g0 g1 g2 g3 g4)
  generalize (f_X5_copyFrom p0ed_0 p0ed_1 p0ed_2 p0ed_3 p0em_0 p0em_1 p0em_2 p0em_3 p0ej_1 p0ej_2 p0ej_3 p1_0 p1_1 p1d_0 p1d_1 p1d_2 p1d_3 p1m_0 p1m_1 p1m_2 p1m_3 p1j_0 p1j_1 p1j_2 p1j_3) = Z_1 at h_p0e h_p0ed h_p0em h_p0ej hR
  obtain ⟨z1_0, z1_1, z1_2, z1_3, z1_4, z1_5, z1_6, z1_7, z1_8, z1_9, z1_10, z1_11, z1_12, z1_13⟩ := Z_1
  dsimp only at h_p0e h_p0ed h_p0em h_p0ej hR
  rw [f_X2_rememberV_C13] at hR
  refine lv_aload_n hx hb dX2_remember_13 rfl (lv_at hl 0 rfl) ?_
  refine lv_aload_n hx hb dX2_remember_14 rfl (lv_at hl 0 rfl) ?_
  refine o_get hx hb hts hown hK hW (inHisV_o h_p0) rfl ig2 1 (by decide) fl_X2_22 rfl dX2_remember_15 ?_
  refine lv_iconst (v := (1 : Int32)) hx hb dX2_remember_18 (by decide) ?_
  refine lv_iadd hx hb dX2_remember_19 ?_
  refine lv_bipush (v := (6 : Int32)) hx hb dX2_remember_20 (by decide) ?_
  refine lv_irem hx hb dX2_remember_22 (by decide) ?_
  refine vHisV_1 hx hb hts hown hK hW hS hA h_p0 fl_X2_22 dX2_remember_23 (fun Ω_2 H locs h_p0 hF_2 hW hS => ?_)
  have h_p0e := h_p0e.keep (fun q h1 h2 => hF_2 q (by omega))
  have h_p0ed := h_p0ed.keep (fun q h1 h2 => hF_2 q (by omega))
  have h_p0em := h_p0em.keep (fun q h1 h2 => hF_2 q (by omega))
  have h_p0ej := h_p0ej.keep (fun q h1 h2 => hF_2 q (by omega))
  have h_p1 := h_p1.keep (fun q h1 h2 => hF_2 q (by omega))
  have h_p1d := h_p1d.keep (fun q h1 h2 => hF_2 q (by omega))
  have h_p1m := h_p1m.keep (fun q h1 h2 => hF_2 q (by omega))
  have h_p1j := h_p1j.keep (fun q h1 h2 => hF_2 q (by omega))
  have hE : ∀ q : Nat, (q < p0 ∨ p0 + 2 ≤ q) → (q < p0e ∨ p0e + 1 ≤ q) → (q < (p0e + 1) ∨ (p0e + 1) + 5 ≤ q) → (q < (p0e + 6) ∨ (p0e + 6) + 5 ≤ q) → (q < (p0e + 11) ∨ (p0e + 11) + 4 ≤ q) → Ω_2 q = Ω q := fun q g0 g1 g2 g3 g4 => (hF_2 q (by omega)).trans (hE q g0 g1 g2 g3 g4)
  refine lv_aload_n hx hb dX2_remember_26 rfl (lv_at hl 0 rfl) ?_
  refine lv_aload_n hx hb dX2_remember_27 rfl (lv_at hl 0 rfl) ?_
  refine o_get hx hb hts hown hK hW (inHisV_o h_p0) rfl ig2 2 (by decide) fl_X2_18 rfl dX2_remember_28 ?_
  refine lv_iconst (v := (1 : Int32)) hx hb dX2_remember_31 (by decide) ?_
  refine lv_iadd hx hb dX2_remember_32 ?_
  refine lv_bipush (v := (6 : Int32)) hx hb dX2_remember_33 (by decide) ?_
  refine va_mmin hx hb (hml.trans hl.1.symm) hown (hts _ ml_X2_29) (hts _ st_J9_min_7cf53) (hts _ ini_J9) (hts _ co_J9_min_7cf53) (Nat.le_of_ble_eq_true rfl) (Nat.le_of_ble_eq_true rfl) (Nat.zero_le _) (Nat.zero_le _) dX2_remember_35 ?_
  refine vHisV_2 hx hb hts hown hK hW hS hA h_p0 fl_X2_18 dX2_remember_38 (fun Ω_3 H locs h_p0 hF_3 hW hS => ?_)
  have h_p0e := h_p0e.keep (fun q h1 h2 => hF_3 q (by omega))
  have h_p0ed := h_p0ed.keep (fun q h1 h2 => hF_3 q (by omega))
  have h_p0em := h_p0em.keep (fun q h1 h2 => hF_3 q (by omega))
  have h_p0ej := h_p0ej.keep (fun q h1 h2 => hF_3 q (by omega))
  have h_p1 := h_p1.keep (fun q h1 h2 => hF_3 q (by omega))
  have h_p1d := h_p1d.keep (fun q h1 h2 => hF_3 q (by omega))
  have h_p1m := h_p1m.keep (fun q h1 h2 => hF_3 q (by omega))
  have h_p1j := h_p1j.keep (fun q h1 h2 => hF_3 q (by omega))
  have hE : ∀ q : Nat, (q < p0 ∨ p0 + 2 ≤ q) → (q < p0e ∨ p0e + 1 ≤ q) → (q < (p0e + 1) ∨ (p0e + 1) + 5 ≤ q) → (q < (p0e + 6) ∨ (p0e + 6) + 5 ≤ q) → (q < (p0e + 11) ∨ (p0e + 11) + 4 ≤ q) → Ω_3 q = Ω q := fun q g0 g1 g2 g3 g4 => (hF_3 q (by omega)).trans (hE q g0 g1 g2 g3 g4)
  subst hR
  exact W.vret hx hb hr (fun t ht hW9 => ⟨⟨Ω_3, rfl, ⟨h_p0, h_p0e, h_p0ed, h_p0em, h_p0ej, hE⟩, by rw [oB, ht]; exact hW⟩, hS.F ht⟩) hS.2.2 dX2_remember_41
set_option maxHeartbeats 4000000 in
set_option maxRecDepth 100000 in
theorem c_X2_recallV (l : Launch) (G : Gm) (A : Nat → Prop) (Ω : Om) (p0 : Nat) (p0e : Nat) (p1 : Nat) (p0_0 : Nat → Option Nat) (p0_1 : Int32) (p0_2 : Int32) (p0e_0 : Int32) (p0e_1 : Int32) (p0ed_0 : Fn) (p0ed_1 : Fn) (p0ed_2 : Fn) (p0ed_3 : Fn) (p0em_0 : Fn) (p0em_1 : Fn) (p0em_2 : Fn) (p0em_3 : Fn) (p0ej_0 : Int32) (p0ej_1 : Fn) (p0ej_2 : Fn) (p0ej_3 : Fn) (p1_0 : Int32) (p1_1 : Int32) (p1d_0 : Fn) (p1d_1 : Fn) (p1d_2 : Fn) (p1d_3 : Fn) (p1m_0 : Fn) (p1m_1 : Fn) (p1m_2 : Fn) (p1m_3 : Fn) (p1j_0 : Int32) (p1j_1 : Fn) (p1j_2 : Fn) (p1j_3 : Fn) (hd_p0_p0e : p0 + 2 ≤ p0e ∨ p0e + 15 ≤ p0) (hd_p0_p1 : p0 + 2 ≤ p1 ∨ p1 + 15 ≤ p0) (hd_p0e_p1 : p0e + 15 ≤ p1 ∨ p1 + 15 ≤ p0e) (hq : p0_0 (((p0_1 + (6 : Int32)) - (1 : Int32)) - ((p0_1 + (6 : Int32)) - (1 : Int32)) / (6 : Int32) * (6 : Int32)).toNatClampNeg = some p0e) (hx1 : 0 ≤ p0_1.toInt ∧ p0_1.toInt < 6) (h_p0 : inHisV G Ω p0 p0_0 p0_1 p0_2) (h_p0e : inSitO G Ω p0e p0e_0 p0e_1) (h_p0ed : inDev G Ω (p0e + 1) p0ed_0 p0ed_1 p0ed_2 p0ed_3) (h_p0em : inDev G Ω (p0e + 6) p0em_0 p0em_1 p0em_2 p0em_3) (h_p0ej : inJou G Ω (p0e + 11) p0ej_0 p0ej_1 p0ej_2 p0ej_3) (h_p1 : inSitO G Ω p1 p1_0 p1_1) (h_p1d : inDev G Ω (p1 + 1) p1d_0 p1d_1 p1d_2 p1d_3) (h_p1m : inDev G Ω (p1 + 6) p1m_0 p1m_1 p1m_2 p1m_3) (h_p1j : inJou G Ω (p1 + 11) p1j_0 p1j_1 p1j_2 p1j_3) : Met l yX2_recall (wz yX2_recall cX2_recall 2 none) ({ frames := 3, cells := 0, slots := 0, locals := 103 } : Room) (va_Pc [.ref p0, .ref p1] (oS G A Ω)) (va_Qv (fun (Ω1 : Om) => inHisV G Ω1 p0 p0_0 ((f_X2_recallV p0_1 p0_2 p0e_0 p0e_1 p0ed_0 p0ed_1 p0ed_2 p0ed_3 p0em_0 p0em_1 p0em_2 p0em_3 p0ej_0 p0ej_1 p0ej_2 p0ej_3 p1d_0 p1d_1 p1d_2 p1d_3 p1m_0 p1m_1 p1m_2 p1m_3 p1j_1 p1j_2 p1j_3).1) ((f_X2_recallV p0_1 p0_2 p0e_0 p0e_1 p0ed_0 p0ed_1 p0ed_2 p0ed_3 p0em_0 p0em_1 p0em_2 p0em_3 p0ej_0 p0ej_1 p0ej_2 p0ej_3 p1d_0 p1d_1 p1d_2 p1d_3 p1m_0 p1m_1 p1m_2 p1m_3 p1j_1 p1j_2 p1j_3).2.1) ∧ inSitO G Ω1 p1 ((f_X2_recallV p0_1 p0_2 p0e_0 p0e_1 p0ed_0 p0ed_1 p0ed_2 p0ed_3 p0em_0 p0em_1 p0em_2 p0em_3 p0ej_0 p0ej_1 p0ej_2 p0ej_3 p1d_0 p1d_1 p1d_2 p1d_3 p1m_0 p1m_1 p1m_2 p1m_3 p1j_1 p1j_2 p1j_3).2.2.1) ((f_X2_recallV p0_1 p0_2 p0e_0 p0e_1 p0ed_0 p0ed_1 p0ed_2 p0ed_3 p0em_0 p0em_1 p0em_2 p0em_3 p0ej_0 p0ej_1 p0ej_2 p0ej_3 p1d_0 p1d_1 p1d_2 p1d_3 p1m_0 p1m_1 p1m_2 p1m_3 p1j_1 p1j_2 p1j_3).2.2.2.1) ∧ inDev G Ω1 (p1 + 1) ((f_X2_recallV p0_1 p0_2 p0e_0 p0e_1 p0ed_0 p0ed_1 p0ed_2 p0ed_3 p0em_0 p0em_1 p0em_2 p0em_3 p0ej_0 p0ej_1 p0ej_2 p0ej_3 p1d_0 p1d_1 p1d_2 p1d_3 p1m_0 p1m_1 p1m_2 p1m_3 p1j_1 p1j_2 p1j_3).2.2.2.2.1) ((f_X2_recallV p0_1 p0_2 p0e_0 p0e_1 p0ed_0 p0ed_1 p0ed_2 p0ed_3 p0em_0 p0em_1 p0em_2 p0em_3 p0ej_0 p0ej_1 p0ej_2 p0ej_3 p1d_0 p1d_1 p1d_2 p1d_3 p1m_0 p1m_1 p1m_2 p1m_3 p1j_1 p1j_2 p1j_3).2.2.2.2.2.1) ((f_X2_recallV p0_1 p0_2 p0e_0 p0e_1 p0ed_0 p0ed_1 p0ed_2 p0ed_3 p0em_0 p0em_1 p0em_2 p0em_3 p0ej_0 p0ej_1 p0ej_2 p0ej_3 p1d_0 p1d_1 p1d_2 p1d_3 p1m_0 p1m_1 p1m_2 p1m_3 p1j_1 p1j_2 p1j_3).2.2.2.2.2.2.1) ((f_X2_recallV p0_1 p0_2 p0e_0 p0e_1 p0ed_0 p0ed_1 p0ed_2 p0ed_3 p0em_0 p0em_1 p0em_2 p0em_3 p0ej_0 p0ej_1 p0ej_2 p0ej_3 p1d_0 p1d_1 p1d_2 p1d_3 p1m_0 p1m_1 p1m_2 p1m_3 p1j_1 p1j_2 p1j_3).2.2.2.2.2.2.2.1) ∧ inDev G Ω1 (p1 + 6) ((f_X2_recallV p0_1 p0_2 p0e_0 p0e_1 p0ed_0 p0ed_1 p0ed_2 p0ed_3 p0em_0 p0em_1 p0em_2 p0em_3 p0ej_0 p0ej_1 p0ej_2 p0ej_3 p1d_0 p1d_1 p1d_2 p1d_3 p1m_0 p1m_1 p1m_2 p1m_3 p1j_1 p1j_2 p1j_3).2.2.2.2.2.2.2.2.1) ((f_X2_recallV p0_1 p0_2 p0e_0 p0e_1 p0ed_0 p0ed_1 p0ed_2 p0ed_3 p0em_0 p0em_1 p0em_2 p0em_3 p0ej_0 p0ej_1 p0ej_2 p0ej_3 p1d_0 p1d_1 p1d_2 p1d_3 p1m_0 p1m_1 p1m_2 p1m_3 p1j_1 p1j_2 p1j_3).2.2.2.2.2.2.2.2.2.1) ((f_X2_recallV p0_1 p0_2 p0e_0 p0e_1 p0ed_0 p0ed_1 p0ed_2 p0ed_3 p0em_0 p0em_1 p0em_2 p0em_3 p0ej_0 p0ej_1 p0ej_2 p0ej_3 p1d_0 p1d_1 p1d_2 p1d_3 p1m_0 p1m_1 p1m_2 p1m_3 p1j_1 p1j_2 p1j_3).2.2.2.2.2.2.2.2.2.2.1) ((f_X2_recallV p0_1 p0_2 p0e_0 p0e_1 p0ed_0 p0ed_1 p0ed_2 p0ed_3 p0em_0 p0em_1 p0em_2 p0em_3 p0ej_0 p0ej_1 p0ej_2 p0ej_3 p1d_0 p1d_1 p1d_2 p1d_3 p1m_0 p1m_1 p1m_2 p1m_3 p1j_1 p1j_2 p1j_3).2.2.2.2.2.2.2.2.2.2.2.1) ∧ inJou G Ω1 (p1 + 11) ((f_X2_recallV p0_1 p0_2 p0e_0 p0e_1 p0ed_0 p0ed_1 p0ed_2 p0ed_3 p0em_0 p0em_1 p0em_2 p0em_3 p0ej_0 p0ej_1 p0ej_2 p0ej_3 p1d_0 p1d_1 p1d_2 p1d_3 p1m_0 p1m_1 p1m_2 p1m_3 p1j_1 p1j_2 p1j_3).2.2.2.2.2.2.2.2.2.2.2.2.1) ((f_X2_recallV p0_1 p0_2 p0e_0 p0e_1 p0ed_0 p0ed_1 p0ed_2 p0ed_3 p0em_0 p0em_1 p0em_2 p0em_3 p0ej_0 p0ej_1 p0ej_2 p0ej_3 p1d_0 p1d_1 p1d_2 p1d_3 p1m_0 p1m_1 p1m_2 p1m_3 p1j_1 p1j_2 p1j_3).2.2.2.2.2.2.2.2.2.2.2.2.2.1) ((f_X2_recallV p0_1 p0_2 p0e_0 p0e_1 p0ed_0 p0ed_1 p0ed_2 p0ed_3 p0em_0 p0em_1 p0em_2 p0em_3 p0ej_0 p0ej_1 p0ej_2 p0ej_3 p1d_0 p1d_1 p1d_2 p1d_3 p1m_0 p1m_1 p1m_2 p1m_3 p1j_1 p1j_2 p1j_3).2.2.2.2.2.2.2.2.2.2.2.2.2.2.1) ((f_X2_recallV p0_1 p0_2 p0e_0 p0e_1 p0ed_0 p0ed_1 p0ed_2 p0ed_3 p0em_0 p0em_1 p0em_2 p0em_3 p0ej_0 p0ej_1 p0ej_2 p0ej_3 p1d_0 p1d_1 p1d_2 p1d_3 p1m_0 p1m_1 p1m_2 p1m_3 p1j_1 p1j_2 p1j_3).2.2.2.2.2.2.2.2.2.2.2.2.2.2.2) ∧ (∀ q : Nat, (q < p0 ∨ p0 + 2 ≤ q) → (q < p1 ∨ p1 + 1 ≤ q) → (q < (p1 + 1) ∨ (p1 + 1) + 5 ≤ q) → (q < (p1 + 6) ∨ (p1 + 6) + 5 ≤ q) → (q < (p1 + 11) ∨ (p1 + 11) + 4 ≤ q) → Ω1 q = Ω q)) (oB G A) A) 0 0 A := by
  refine Met.ofW (cc := cX2_recall) (maxL := 2) (ret := none) (by decide) rfl ?_
  intro p e s m args below meth c s₁ B hml hv
  obtain ⟨rfl, hW, hK, hN, hZ⟩ := hv
  have hx := B.exec
  have hb := B.bytes
  have hr := B.returns
  have hts : ∀ w ∈ gt, w.before _ s = true := fun w hw => atoms_spec (ws := wz yX2_recall cX2_recall 2 none) B.pre w (List.mem_cons_of_mem _ hw)
  have hown : s.vm.findClass RX2 = some m.cls := findClass_of_methodNamed B.named
  have hlocks := B.notSynchronized
  have hA : ∀ q, A q → A q := fun _ h => h
  have hS : va_S A s.heap s.heap [] := va_S.rf
  have hS0 := hS
  have hl := lv_entry ([.ref p0, .ref p1]) (n := 2) (Nat.le_of_ble_eq_true rfl)
  rw [lg_entry_eq]
  generalize (lg_sl ([.ref p0, .ref p1]) ++ List.replicate (2 - (lg_sl ([.ref p0, .ref p1])).length) Slot.unset).toArray = ls at hl ⊢
  have hl : lv_has ls 2 [(0, .ref p0), (1, .ref p1)] := hl
  have hE : ∀ q : Nat, (q < p0 ∨ p0 + 2 ≤ q) → (q < p1 ∨ p1 + 1 ≤ q) → (q < (p1 + 1) ∨ (p1 + 1) + 5 ≤ q) → (q < (p1 + 6) ∨ (p1 + 6) + 5 ≤ q) → (q < (p1 + 11) ∨ (p1 + 11) + 4 ≤ q) → Ω q = Ω q := by intros; rfl
  generalize hR : (f_X2_recallV p0_1 p0_2 p0e_0 p0e_1 p0ed_0 p0ed_1 p0ed_2 p0ed_3 p0em_0 p0em_1 p0em_2 p0em_3 p0ej_0 p0ej_1 p0ej_2 p0ej_3 p1d_0 p1d_1 p1d_2 p1d_3 p1m_0 p1m_1 p1m_2 p1m_3 p1j_1 p1j_2 p1j_3) = R
  rw [f_X2_recallV] at hR
  refine lv_aload_n hx hb dX2_recall_0 rfl (lv_at hl 0 rfl) ?_
  refine lv_aload_n hx hb dX2_recall_1 rfl (lv_at hl 0 rfl) ?_
  refine o_get hx hb hts hown hK hW (inHisV_o h_p0) rfl ig2 1 (by decide) fl_X2_22 rfl dX2_recall_2 ?_
  refine lv_bipush (v := (6 : Int32)) hx hb dX2_recall_5 (by decide) ?_
  refine lv_iadd hx hb dX2_recall_7 ?_
  refine lv_iconst (v := (1 : Int32)) hx hb dX2_recall_8 (by decide) ?_
  refine lv_isub hx hb dX2_recall_9 ?_
  refine lv_bipush (v := (6 : Int32)) hx hb dX2_recall_10 (by decide) ?_
  refine lv_irem hx hb dX2_recall_12 (by decide) ?_
  refine vHisV_1 hx hb hts hown hK hW hS hA h_p0 fl_X2_22 dX2_recall_13 (fun Ω_1 H locs h_p0 hF_1 hW hS => ?_)
  have h_p0e := h_p0e.keep (fun q h1 h2 => hF_1 q (by omega))
  have h_p0ed := h_p0ed.keep (fun q h1 h2 => hF_1 q (by omega))
  have h_p0em := h_p0em.keep (fun q h1 h2 => hF_1 q (by omega))
  have h_p0ej := h_p0ej.keep (fun q h1 h2 => hF_1 q (by omega))
  have h_p1 := h_p1.keep (fun q h1 h2 => hF_1 q (by omega))
  have h_p1d := h_p1d.keep (fun q h1 h2 => hF_1 q (by omega))
  have h_p1m := h_p1m.keep (fun q h1 h2 => hF_1 q (by omega))
  have h_p1j := h_p1j.keep (fun q h1 h2 => hF_1 q (by omega))
  have hE : ∀ q : Nat, (q < p0 ∨ p0 + 2 ≤ q) → (q < p1 ∨ p1 + 1 ≤ q) → (q < (p1 + 1) ∨ (p1 + 1) + 5 ≤ q) → (q < (p1 + 6) ∨ (p1 + 6) + 5 ≤ q) → (q < (p1 + 11) ∨ (p1 + 11) + 4 ≤ q) → Ω_1 q = Ω q := fun q g0 g1 g2 g3 g4 => (hF_1 q (by omega)).trans (hE q g0 g1 g2 g3 g4)
  refine lv_aload_n hx hb dX2_recall_16 rfl (lv_at hl 0 rfl) ?_
  refine lv_dup hx hb dX2_recall_17 rfl ?_
  refine o_get hx hb hts hown hK hW (inHisV_o h_p0) rfl ig2 2 (by decide) fl_X2_18 rfl dX2_recall_18 ?_
  refine lv_iconst (v := (1 : Int32)) hx hb dX2_recall_21 (by decide) ?_
  refine lv_isub hx hb dX2_recall_22 ?_
  refine vHisV_2 hx hb hts hown hK hW hS hA h_p0 fl_X2_18 dX2_recall_23 (fun Ω_2 H locs h_p0 hF_2 hW hS => ?_)
  have h_p0e := h_p0e.keep (fun q h1 h2 => hF_2 q (by omega))
  have h_p0ed := h_p0ed.keep (fun q h1 h2 => hF_2 q (by omega))
  have h_p0em := h_p0em.keep (fun q h1 h2 => hF_2 q (by omega))
  have h_p0ej := h_p0ej.keep (fun q h1 h2 => hF_2 q (by omega))
  have h_p1 := h_p1.keep (fun q h1 h2 => hF_2 q (by omega))
  have h_p1d := h_p1d.keep (fun q h1 h2 => hF_2 q (by omega))
  have h_p1m := h_p1m.keep (fun q h1 h2 => hF_2 q (by omega))
  have h_p1j := h_p1j.keep (fun q h1 h2 => hF_2 q (by omega))
  have hE : ∀ q : Nat, (q < p0 ∨ p0 + 2 ≤ q) → (q < p1 ∨ p1 + 1 ≤ q) → (q < (p1 + 1) ∨ (p1 + 1) + 5 ≤ q) → (q < (p1 + 6) ∨ (p1 + 6) + 5 ≤ q) → (q < (p1 + 11) ∨ (p1 + 11) + 4 ≤ q) → Ω_2 q = Ω q := fun q g0 g1 g2 g3 g4 => (hF_2 q (by omega)).trans (hE q g0 g1 g2 g3 g4)
  refine lv_aload_n hx hb dX2_recall_26 rfl (lv_at hl 1 rfl) ?_
  refine lv_aload_n hx hb dX2_recall_27 rfl (lv_at hl 0 rfl) ?_
  refine o_get hx hb hts hown hK hW (inHisV_o h_p0) rfl ig2 0 (by decide) fl_X2_11 rfl dX2_recall_28 ?_
  refine lv_aload_n hx hb dX2_recall_31 rfl (lv_at hl 0 rfl) ?_
  refine o_get hx hb hts hown hK hW (inHisV_o h_p0) rfl ig2 1 (by decide) fl_X2_22 rfl dX2_recall_32 ?_
  have j_3 : (6 : Int32).toInt = 6 := by decide
  try have j_4 : (p0_1 + (6 : Int32)).toInt = p0_1.toInt + (6 : Int32).toInt := fb_addI (by omega) (by omega)
  have j_5 : (1 : Int32).toInt = 1 := by decide
  try have j_6 : ((p0_1 + (6 : Int32)) - (1 : Int32)).toInt = (p0_1 + (6 : Int32)).toInt - (1 : Int32).toInt := fb_subI (by omega) (by omega)
  try have j_7 : (((p0_1 + (6 : Int32)) - (1 : Int32)) - ((p0_1 + (6 : Int32)) - (1 : Int32)) / (6 : Int32) * (6 : Int32)).toInt = ((p0_1 + (6 : Int32)) - (1 : Int32)).toInt - ((p0_1 + (6 : Int32)) - (1 : Int32)).toInt / 6 * 6 := rg_rem (by decide) (by omega) (by decide)
  refine o_aldq2 hx hb hK hW (inHisV_a0 h_p0) hq (vp_in_iff.mpr ⟨by omega, by omega⟩) dX2_recall_35 ?_
  refine o_Vv (rest := []) (As := [.ref p0e]) (n := 1) hx hb hml hown hts hK hN hZ hW hS hA (c_X5_copyFrom l G A Ω_2 p1 p0e p1_0 p1_1 p1d_0 p1d_1 p1d_2 p1d_3 p1m_0 p1m_1 p1m_2 p1m_3 p1j_0 p1j_1 p1j_2 p1j_3 p0e_0 p0e_1 p0ed_0 p0ed_1 p0ed_2 p0ed_3 p0em_0 p0em_1 p0em_2 p0em_3 p0ej_0 p0ej_1 p0ej_2 p0ej_3 (by omega) h_p1 h_p1d h_p1m h_p1j h_p0e h_p0ed h_p0em h_p0ej) (inSitO_o h_p1) rfl (good_V ml_X2_25 im_X5_copyFrom se_X5_copyFrom ini_X5 co_X5_copyFrom) (by decide +kernel) ⟨Nat.zero_le _, Nat.zero_le _⟩ hl.1 (Nat.le_of_ble_eq_true rfl) rfl rfl dX2_recall_36 (fun Ω_8 H locs hp hW hS => ?_)
  obtain ⟨h_p1, h_p1d, h_p1m, h_p1j, hF_8⟩ := hp
  have h_p0 := h_p0.keep (fun q h1 h2 => hF_8 q (by omega) (by omega) (by omega) (by omega))
  have h_p0e := h_p0e.keep (fun q h1 h2 => hF_8 q (by omega) (by omega) (by omega) (by omega))
  have h_p0ed := h_p0ed.keep (fun q h1 h2 => hF_8 q (by omega) (by omega) (by omega) (by omega))
  have h_p0em := h_p0em.keep (fun q h1 h2 => hF_8 q (by omega) (by omega) (by omega) (by omega))
  have h_p0ej := h_p0ej.keep (fun q h1 h2 => hF_8 q (by omega) (by omega) (by omega) (by omega))
  have hE : ∀ q : Nat, (q < p0 ∨ p0 + 2 ≤ q) → (q < p1 ∨ p1 + 1 ≤ q) → (q < (p1 + 1) ∨ (p1 + 1) + 5 ≤ q) → (q < (p1 + 6) ∨ (p1 + 6) + 5 ≤ q) → (q < (p1 + 11) ∨ (p1 + 11) + 4 ≤ q) → Ω_8 q = Ω q := fun q g0 g1 g2 g3 g4 => (hF_8 q (by omega) (by omega) (by omega) (by omega)).trans (hE q g0 g1 g2 g3 g4)
  generalize (f_X5_copyFrom p1d_0 p1d_1 p1d_2 p1d_3 p1m_0 p1m_1 p1m_2 p1m_3 p1j_1 p1j_2 p1j_3 p0e_0 p0e_1 p0ed_0 p0ed_1 p0ed_2 p0ed_3 p0em_0 p0em_1 p0em_2 p0em_3 p0ej_0 p0ej_1 p0ej_2 p0ej_3) = Z_8 at h_p1 h_p1d h_p1m h_p1j hR
  obtain ⟨z8_0, z8_1, z8_2, z8_3, z8_4, z8_5, z8_6, z8_7, z8_8, z8_9, z8_10, z8_11, z8_12, z8_13⟩ := Z_8
  dsimp only at h_p1 h_p1d h_p1m h_p1j hR
  rw [f_X2_recallV_C39] at hR
  subst hR
  exact W.vret hx hb hr (fun t ht hW9 => ⟨⟨Ω_8, rfl, ⟨h_p0, h_p1, h_p1d, h_p1m, h_p1j, hE⟩, by rw [oB, ht]; exact hW⟩, hS.F ht⟩) hS.2.2 dX2_recall_39
