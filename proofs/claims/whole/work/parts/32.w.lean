set_option maxHeartbeats 4000000 in
set_option maxRecDepth 100000 in
theorem c_X8_differed (l : Launch) (G : Gm) (A : Nat → Prop) (Ω : Om) (p0 : Nat) (p0b : Nat) (p0pb : Nat) (p0n_0 : Int32) (p0n_1 : Int32) (x1 : Int32) (hbo : (p0b = p0 + 4 ∧ p0pb = p0 + 132) ∨ (p0b = p0 + 132 ∧ p0pb = p0 + 4)) (h_p0 : inMBO G Ω p0 p0b) (h_p0n : inSitO G Ω (p0 + 18) p0n_0 p0n_1) : Met l yX8_differed (wz yX8_differed cX8_differed 2 (some .int)) ({ frames := 0, cells := 0, slots := 0, locals := 0 } : Room) (va_Pc [.ref p0, .int x1] (oS G A Ω)) (va_Qi (fun (r : Int32) (Ω1 : Om) => r = (f_X8_differed p0n_0 p0n_1 x1) ∧ Ω1 = Ω) (oB G A) A) 0 0 A := by
  refine Met.ofW (cc := cX8_differed) (maxL := 2) (ret := (some .int)) (by decide) rfl ?_
  intro p e s m args below meth c s₁ B hml hv
  obtain ⟨rfl, hW, hK, hN, hZ⟩ := hv
  have hx := B.exec
  have hb := B.bytes
  have hr := B.returns
  have hts : ∀ w ∈ gt, w.before _ s = true := fun w hw => atoms_spec (ws := wz yX8_differed cX8_differed 2 (some .int)) B.pre w (List.mem_cons_of_mem _ hw)
  have hown : s.vm.findClass RX8 = some m.cls := findClass_of_methodNamed B.named
  have hlocks := B.notSynchronized
  have hA : ∀ q, A q → A q := fun _ h => h
  have hS : va_S A s.heap s.heap [] := va_S.rf
  have hS0 := hS
  have hl := lv_entry ([.ref p0, .int x1]) (n := 2) (Nat.le_of_ble_eq_true rfl)
  rw [lg_entry_eq]
  generalize (lg_sl ([.ref p0, .int x1]) ++ List.replicate (2 - (lg_sl ([.ref p0, .int x1])).length) Slot.unset).toArray = ls at hl ⊢
  have hl : lv_has ls 2 [(0, .ref p0), (1, .int x1)] := hl
  generalize hR : (f_X8_differed p0n_0 p0n_1 x1) = R
  rw [f_X8_differed] at hR
  refine lv_iload_n hx hb dX8_differed_0 rfl (lv_at hl 1 rfl) ?_
  by_cases c_1 : x1 = (0 : Int32)
  · rw [if_pos c_1] at hR
    refine lv_lookup (tgt := 28) hx hb dX8_differed_1 (by decide) (by rw [c_1] <;> rfl) (by decide) ?_
    have i_1 := congrArg Int32.toInt c_1
    have j_2 : (0 : Int32).toInt = 0 := by decide
    refine lv_aload_n hx hb dX8_differed_28 rfl (lv_at hl 0 rfl) ?_
    refine o_get hx hb hts hown hK hW (inMBO_o h_p0) rfl ig8 2 (by decide) fl_X8_28 rfl dX8_differed_29 ?_
    refine o_get hx hb hts hown hK hW (inSitO_o h_p0n) rfl ig5 3 (by decide) fl_X8_196 rfl dX8_differed_32 ?_
    subst hR
    exact W.iret (v := p0n_0) hx hb hr (fun t ht hW9 => ⟨⟨p0n_0, Ω, rfl, ⟨rfl, rfl⟩, by rw [oB, ht]; exact hW⟩, hS.F ht⟩) hS.2.2 dX8_differed_35
  rw [if_neg c_1] at hR
  by_cases c_3 : x1 = (1 : Int32)
  · rw [if_pos c_3] at hR
    refine lv_lookup (tgt := 36) hx hb dX8_differed_1 (by decide) (by rw [c_3] <;> rfl) (by decide) ?_
    have i_3 := congrArg Int32.toInt c_3
    refine lv_aload_n hx hb dX8_differed_36 rfl (lv_at hl 0 rfl) ?_
    refine o_get hx hb hts hown hK hW (inMBO_o h_p0) rfl ig8 2 (by decide) fl_X8_28 rfl dX8_differed_37 ?_
    refine o_get hx hb hts hown hK hW (inSitO_o h_p0n) rfl ig5 4 (by decide) fl_X8_199 rfl dX8_differed_40 ?_
    subst hR
    exact W.iret (v := p0n_1) hx hb hr (fun t ht hW9 => ⟨⟨p0n_1, Ω, rfl, ⟨rfl, rfl⟩, by rw [oB, ht]; exact hW⟩, hS.F ht⟩) hS.2.2 dX8_differed_43
  rw [if_neg c_3] at hR
  have i_1 := lv_neT c_1 (a := 0) rfl
  have i_3 := lv_neT c_3 (a := 1) rfl
  refine lv_lookup (tgt := 44) (off := 43) hx hb dX8_differed_1 (by decide) (show Op.lookupswitch.offset [(0, 27), (1, 35)] 43 x1.toInt = 43 by rw [lv_osw (a := 0) c_1 rfl, lv_osw (a := 1) c_3 rfl]; rfl) (by decide) ?_
  refine lv_iconst (v := (-1 : Int32)) hx hb dX8_differed_44 (by decide) ?_
  subst hR
  exact W.iret (v := (-1 : Int32)) hx hb hr (fun t ht hW9 => ⟨⟨(-1 : Int32), Ω, rfl, ⟨rfl, rfl⟩, by rw [oB, ht]; exact hW⟩, hS.F ht⟩) hS.2.2 dX8_differed_45
set_option maxHeartbeats 4000000 in
set_option maxRecDepth 100000 in
theorem c_X8_log (l : Launch) (G : Gm) (A : Nat → Prop) (Ω : Om) (p0 : Nat) (p0b : Nat) (p0pb : Nat) (p0n_0 : Int32) (p0n_1 : Int32) (p0nj_0 : Int32) (p0nj_1 : Fn) (p0nj_2 : Fn) (p0nj_3 : Fn) (x1 : Int32) (x2 : Int32) (hbo : (p0b = p0 + 4 ∧ p0pb = p0 + 132) ∨ (p0b = p0 + 132 ∧ p0pb = p0 + 4)) (hJ_p0nj : 0 ≤ p0nj_0.toInt ∧ p0nj_0.toInt ≤ 20) (h_p0 : inMBO G Ω p0 p0b) (h_p0n : inSitO G Ω (p0 + 18) p0n_0 p0n_1) (h_p0nj : inJou G Ω (p0 + 29) p0nj_0 p0nj_1 p0nj_2 p0nj_3) : Met l yX8_log (wz yX8_log cX8_log 3 (some .int)) ({ frames := 1, cells := 0, slots := 0, locals := 21 } : Room) (va_Pc [.ref p0, .int x1, .int x2] (oS G A Ω)) (va_Qi (fun (r : Int32) (Ω1 : Om) => r = (f_X8_log p0nj_0 p0nj_1 p0nj_2 p0nj_3 x1 x2) ∧ Ω1 = Ω) (oB G A) A) 0 0 A := by
  refine Met.ofW (cc := cX8_log) (maxL := 3) (ret := (some .int)) (by decide) rfl ?_
  intro p e s m args below meth c s₁ B hml hv
  obtain ⟨rfl, hW, hK, hN, hZ⟩ := hv
  have hx := B.exec
  have hb := B.bytes
  have hr := B.returns
  have hts : ∀ w ∈ gt, w.before _ s = true := fun w hw => atoms_spec (ws := wz yX8_log cX8_log 3 (some .int)) B.pre w (List.mem_cons_of_mem _ hw)
  have hown : s.vm.findClass RX8 = some m.cls := findClass_of_methodNamed B.named
  have hlocks := B.notSynchronized
  have hA : ∀ q, A q → A q := fun _ h => h
  have hS : va_S A s.heap s.heap [] := va_S.rf
  have hS0 := hS
  have hl := lv_entry ([.ref p0, .int x1, .int x2]) (n := 3) (Nat.le_of_ble_eq_true rfl)
  rw [lg_entry_eq]
  generalize (lg_sl ([.ref p0, .int x1, .int x2]) ++ List.replicate (3 - (lg_sl ([.ref p0, .int x1, .int x2])).length) Slot.unset).toArray = ls at hl ⊢
  have hl : lv_has ls 3 [(0, .ref p0), (1, .int x1), (2, .int x2)] := hl
  generalize hR : (f_X8_log p0nj_0 p0nj_1 p0nj_2 p0nj_3 x1 x2) = R
  rw [f_X8_log] at hR
  refine lv_iload_n hx hb dX8_log_0 rfl (lv_at hl 1 rfl) ?_
  have j_2 : (0 : Int32).toInt = 0 := by decide
  refine lv_if_lt (tgt := 12) hx hb dX8_log_1 (by decide) (fun c_1 => ?_) (fun c_1 => ?_)
  · rw [if_pos c_1] at hR
    have i_1 := rlt c_1
    refine lv_iconst (v := (-1 : Int32)) hx hb dX8_log_12 (by decide) ?_
    subst hR
    exact W.iret (v := (-1 : Int32)) hx hb hr (fun t ht hW9 => ⟨⟨(-1 : Int32), Ω, rfl, ⟨rfl, rfl⟩, by rw [oB, ht]; exact hW⟩, hS.F ht⟩) hS.2.2 dX8_log_13
  · rw [if_neg c_1] at hR
    have i_1 := rnlt c_1
    refine lv_iload_n hx hb dX8_log_4 rfl (lv_at hl 2 rfl) ?_
    refine lv_iconst (v := (3 : Int32)) hx hb dX8_log_5 (by decide) ?_
    have j_3 : (3 : Int32).toInt = 3 := by decide
    refine o_SiR (rest := []) (As := [.int x2, .int (3 : Int32)]) (n := 2) hx hb hml hown hts hK hN hZ hW hS hA (c_X8_isWithin l G A Ω x2 (3 : Int32)) ml_X8_61 st_X8_isWithin ini_X8 co_X8_isWithin (by decide +kernel) ⟨Nat.zero_le _, Nat.zero_le _⟩ hl.1 (Nat.le_of_ble_eq_true rfl) rfl rfl dX8_log_6 (fun r H locs hp hW hS => ?_)
    obtain ⟨rfl, hz_4⟩ := hp
    refine lv_if_ne (tgt := 14) hx hb dX8_log_9 (by decide) (fun c_5 => ?_) (fun c_5 => ?_)
    · rw [if_neg c_5] at hR
      have i_5 := rne c_5
      have b_c_5 := rIW c_5
      refine lv_iload_n hx hb dX8_log_14 rfl (lv_at hl 1 rfl) ?_
      refine lv_aload_n hx hb dX8_log_15 rfl (lv_at hl 0 rfl) ?_
      refine o_get hx hb hts hown hK hW (inMBO_o h_p0) rfl ig8 2 (by decide) fl_X8_28 rfl dX8_log_16 ?_
      refine o_get hx hb hts hown hK hW (inSitO_o h_p0n) rfl ig5 2 (by decide) fl_X8_92 rfl dX8_log_19 ?_
      refine o_get hx hb hts hown hK hW (inJou_o h_p0nj) rfl ig3 0 (by decide) fl_X8_96 rfl dX8_log_22 ?_
      refine lv_icmp_lt (tgt := 31) hx hb dX8_log_25 (by decide) (fun c_6 => ?_) (fun c_6 => ?_)
      · rw [if_pos c_6] at hR
        have i_6 := rlt c_6
        refine lv_iload_n hx hb dX8_log_31 rfl (lv_at hl 2 rfl) ?_
        by_cases c_7 : x2 = (0 : Int32)
        · rw [if_pos c_7] at hR
          refine lv_lookup (tgt := 60) hx hb dX8_log_32 (by decide) (by rw [c_7] <;> rfl) (by decide) ?_
          have i_7 := congrArg Int32.toInt c_7
          refine lv_aload_n hx hb dX8_log_60 rfl (lv_at hl 0 rfl) ?_
          refine o_get hx hb hts hown hK hW (inMBO_o h_p0) rfl ig8 2 (by decide) fl_X8_28 rfl dX8_log_61 ?_
          refine o_get hx hb hts hown hK hW (inSitO_o h_p0n) rfl ig5 2 (by decide) fl_X8_92 rfl dX8_log_64 ?_
          refine o_get hx hb hts hown hK hW (inJou_o h_p0nj) rfl ig3 1 (by decide) fl_X8_202 rfl dX8_log_67 ?_
          refine lv_iload_n hx hb dX8_log_70 rfl (lv_at hl 1 rfl) ?_
          refine o_iald hx hb hK hW (inJou_a0 h_p0nj) (vp_in_iff.mpr ⟨by omega, by omega⟩) dX8_log_71 ?_
          subst hR
          exact W.iret (v := (p0nj_1 x1.toNatClampNeg)) hx hb hr (fun t ht hW9 => ⟨⟨(p0nj_1 x1.toNatClampNeg), Ω, rfl, ⟨rfl, rfl⟩, by rw [oB, ht]; exact hW⟩, hS.F ht⟩) hS.2.2 dX8_log_72
        rw [if_neg c_7] at hR
        by_cases c_8 : x2 = (1 : Int32)
        · rw [if_pos c_8] at hR
          refine lv_lookup (tgt := 73) hx hb dX8_log_32 (by decide) (by rw [c_8] <;> rfl) (by decide) ?_
          have i_8 := congrArg Int32.toInt c_8
          refine lv_aload_n hx hb dX8_log_73 rfl (lv_at hl 0 rfl) ?_
          refine o_get hx hb hts hown hK hW (inMBO_o h_p0) rfl ig8 2 (by decide) fl_X8_28 rfl dX8_log_74 ?_
          refine o_get hx hb hts hown hK hW (inSitO_o h_p0n) rfl ig5 2 (by decide) fl_X8_92 rfl dX8_log_77 ?_
          refine o_get hx hb hts hown hK hW (inJou_o h_p0nj) rfl ig3 2 (by decide) fl_X8_203 rfl dX8_log_80 ?_
          refine lv_iload_n hx hb dX8_log_83 rfl (lv_at hl 1 rfl) ?_
          refine o_zald hx hb hK hW (inJou_a1 h_p0nj) (vp_in_iff.mpr ⟨by omega, by omega⟩) dX8_log_84 ?_
          refine lv_if_eq (tgt := 92) hx hb dX8_log_85 (by decide) (fun c_9 => ?_) (fun c_9 => ?_)
          · rw [if_pos c_9] at hR
            have i_9 := congrArg Int32.toInt c_9
            refine lv_iconst (v := (0 : Int32)) hx hb dX8_log_92 (by decide) ?_
            subst hR
            exact W.iret (v := (0 : Int32)) hx hb hr (fun t ht hW9 => ⟨⟨(0 : Int32), Ω, rfl, ⟨rfl, rfl⟩, by rw [oB, ht]; exact hW⟩, hS.F ht⟩) hS.2.2 dX8_log_93
          · rw [if_neg c_9] at hR
            have i_9 := rne c_9
            refine lv_iconst (v := (1 : Int32)) hx hb dX8_log_88 (by decide) ?_
            refine lv_goto (tgt := 93) hx hb dX8_log_89 (by decide) ?_
            subst hR
            exact W.iret (v := (1 : Int32)) hx hb hr (fun t ht hW9 => ⟨⟨(1 : Int32), Ω, rfl, ⟨rfl, rfl⟩, by rw [oB, ht]; exact hW⟩, hS.F ht⟩) hS.2.2 dX8_log_93
        rw [if_neg c_8] at hR
        have i_7 := lv_neT c_7 (a := 0) rfl
        have i_8 := lv_neT c_8 (a := 1) rfl
        refine lv_lookup (tgt := 94) (off := 62) hx hb dX8_log_32 (by decide) (show Op.lookupswitch.offset [(0, 28), (1, 41)] 62 x2.toInt = 62 by rw [lv_osw (a := 0) c_7 rfl, lv_osw (a := 1) c_8 rfl]; rfl) (by decide) ?_
        refine lv_aload_n hx hb dX8_log_94 rfl (lv_at hl 0 rfl) ?_
        refine o_get hx hb hts hown hK hW (inMBO_o h_p0) rfl ig8 2 (by decide) fl_X8_28 rfl dX8_log_95 ?_
        refine o_get hx hb hts hown hK hW (inSitO_o h_p0n) rfl ig5 2 (by decide) fl_X8_92 rfl dX8_log_98 ?_
        refine o_get hx hb hts hown hK hW (inJou_o h_p0nj) rfl ig3 3 (by decide) fl_X8_206 rfl dX8_log_101 ?_
        refine lv_iload_n hx hb dX8_log_104 rfl (lv_at hl 1 rfl) ?_
        refine o_iald hx hb hK hW (inJou_a2 h_p0nj) (vp_in_iff.mpr ⟨by omega, by omega⟩) dX8_log_105 ?_
        subst hR
        exact W.iret (v := (p0nj_3 x1.toNatClampNeg)) hx hb hr (fun t ht hW9 => ⟨⟨(p0nj_3 x1.toNatClampNeg), Ω, rfl, ⟨rfl, rfl⟩, by rw [oB, ht]; exact hW⟩, hS.F ht⟩) hS.2.2 dX8_log_106
      · rw [if_neg c_6] at hR
        have i_6 := rnlt c_6
        refine lv_bipush (v := (-9 : Int32)) hx hb dX8_log_28 (by decide) ?_
        subst hR
        exact W.iret (v := (-9 : Int32)) hx hb hr (fun t ht hW9 => ⟨⟨(-9 : Int32), Ω, rfl, ⟨rfl, rfl⟩, by rw [oB, ht]; exact hW⟩, hS.F ht⟩) hS.2.2 dX8_log_30
    · rw [if_pos c_5] at hR
      have i_5 := congrArg Int32.toInt c_5
      refine lv_iconst (v := (-1 : Int32)) hx hb dX8_log_12 (by decide) ?_
      subst hR
      exact W.iret (v := (-1 : Int32)) hx hb hr (fun t ht hW9 => ⟨⟨(-1 : Int32), Ω, rfl, ⟨rfl, rfl⟩, by rw [oB, ht]; exact hW⟩, hS.F ht⟩) hS.2.2 dX8_log_13
set_option maxHeartbeats 4000000 in
set_option maxRecDepth 100000 in
theorem c_X8_wouldReadTheSame (l : Launch) (G : Gm) (A : Nat → Prop) (Ω : Om) (p0 : Nat) (p0b : Nat) (p0pb : Nat) (p0n_0 : Int32) (p0n_1 : Int32) (p0nj_0 : Int32) (p0nj_1 : Fn) (p0nj_2 : Fn) (p0nj_3 : Fn) (p0v_0 : Fn) (p0v_1 : Fn) (p0v_2 : Fn) (p0v_3 : Fn) (p0b_0 : Blk) (x1 : Int32) (x2 : Int32) (hbo : (p0b = p0 + 4 ∧ p0pb = p0 + 132) ∨ (p0b = p0 + 132 ∧ p0pb = p0 + 4)) (hJ_p0nj : 0 ≤ p0nj_0.toInt ∧ p0nj_0.toInt ≤ 20) (hB_p0b : BlkInv p0b_0) (h_p0 : inMBO G Ω p0 p0b) (h_p0n : inSitO G Ω (p0 + 18) p0n_0 p0n_1) (h_p0nj : inJou G Ω (p0 + 29) p0nj_0 p0nj_1 p0nj_2 p0nj_3) (h_p0v : inDev G Ω (p0 + 127) p0v_0 p0v_1 p0v_2 p0v_3) (h_p0b : inBlk G Ω p0b p0b_0) : Met l yX8_wouldReadTheSame (wz yX8_wouldReadTheSame cX8_wouldReadTheSame 3 (some .boolean)) ({ frames := 6, cells := 0, slots := 0, locals := 137 } : Room) (va_Pc [.ref p0, .int x1, .int x2] (oS G A Ω)) (va_Qi (fun (r : Int32) (Ω1 : Om) => r = (f_X8_wouldReadTheSame p0nj_0 p0nj_1 p0nj_2 p0nj_3 p0v_0 p0v_1 p0v_2 p0v_3 p0b_0 x1 x2).1 ∧ (r = 0 ∨ r = 1) ∧ inDev G Ω1 (p0 + 127) ((f_X8_wouldReadTheSame p0nj_0 p0nj_1 p0nj_2 p0nj_3 p0v_0 p0v_1 p0v_2 p0v_3 p0b_0 x1 x2).2.1) ((f_X8_wouldReadTheSame p0nj_0 p0nj_1 p0nj_2 p0nj_3 p0v_0 p0v_1 p0v_2 p0v_3 p0b_0 x1 x2).2.2.1) ((f_X8_wouldReadTheSame p0nj_0 p0nj_1 p0nj_2 p0nj_3 p0v_0 p0v_1 p0v_2 p0v_3 p0b_0 x1 x2).2.2.2.1) ((f_X8_wouldReadTheSame p0nj_0 p0nj_1 p0nj_2 p0nj_3 p0v_0 p0v_1 p0v_2 p0v_3 p0b_0 x1 x2).2.2.2.2) ∧ (∀ q : Nat, (q < (p0 + 127) ∨ (p0 + 127) + 5 ≤ q) → Ω1 q = Ω q)) (oB G A) A) 0 0 A := by
  refine Met.ofW (cc := cX8_wouldReadTheSame) (maxL := 3) (ret := (some .boolean)) (by decide) rfl ?_
  intro p e s m args below meth c s₁ B hml hv
  obtain ⟨rfl, hW, hK, hN, hZ⟩ := hv
  have hx := B.exec
  have hb := B.bytes
  have hr := B.returns
  have hts : ∀ w ∈ gt, w.before _ s = true := fun w hw => atoms_spec (ws := wz yX8_wouldReadTheSame cX8_wouldReadTheSame 3 (some .boolean)) B.pre w (List.mem_cons_of_mem _ hw)
  have hown : s.vm.findClass RX8 = some m.cls := findClass_of_methodNamed B.named
  have hlocks := B.notSynchronized
  have hA : ∀ q, A q → A q := fun _ h => h
  have hS : va_S A s.heap s.heap [] := va_S.rf
  have hS0 := hS
  have hl := lv_entry ([.ref p0, .int x1, .int x2]) (n := 3) (Nat.le_of_ble_eq_true rfl)
  rw [lg_entry_eq]
  generalize (lg_sl ([.ref p0, .int x1, .int x2]) ++ List.replicate (3 - (lg_sl ([.ref p0, .int x1, .int x2])).length) Slot.unset).toArray = ls at hl ⊢
  have hl : lv_has ls 3 [(0, .ref p0), (1, .int x1), (2, .int x2)] := hl
  have hE : ∀ q : Nat, (q < (p0 + 127) ∨ (p0 + 127) + 5 ≤ q) → Ω q = Ω q := by intros; rfl
  generalize hR : (f_X8_wouldReadTheSame p0nj_0 p0nj_1 p0nj_2 p0nj_3 p0v_0 p0v_1 p0v_2 p0v_3 p0b_0 x1 x2) = R
  rw [f_X8_wouldReadTheSame] at hR
  refine lv_aload_n hx hb dX8_wouldReadTheSame_0 rfl (lv_at hl 0 rfl) ?_
  refine o_get hx hb hts hown hK hW (inMBO_o h_p0) rfl ig8 6 (by decide) fl_X8_50 rfl dX8_wouldReadTheSame_1 ?_
  refine lv_aload_n hx hb dX8_wouldReadTheSame_4 rfl (lv_at hl 0 rfl) ?_
  refine o_get hx hb hts hown hK hW (inMBO_o h_p0) rfl ig8 7 (by decide) fl_X8_57 rfl dX8_wouldReadTheSame_5 ?_
  refine o_Vv (rest := []) (As := [.ref p0b]) (n := 1) hx hb hml hown hts hK hN hZ hW hS hA (c_X1_mend l G A Ω (p0 + 127) p0b p0v_0 p0v_1 p0v_2 p0v_3 p0b_0 (by omega) hB_p0b h_p0v h_p0b) (inDev_o h_p0v) rfl (good_V ml_X8_244 im_X1_mend se_X1_mend ini_X1 co_X1_mend) (by decide +kernel) ⟨Nat.zero_le _, Nat.zero_le _⟩ hl.1 (Nat.le_of_ble_eq_true rfl) rfl rfl dX8_wouldReadTheSame_8 (fun Ω_1 H locs hp hW hS => ?_)
  obtain ⟨h_p0v, hF_1⟩ := hp
  have h_p0 := h_p0.keep (fun q h1 h2 => hF_1 q (by omega))
  have h_p0n := h_p0n.keep (fun q h1 h2 => hF_1 q (by omega))
  have h_p0nj := h_p0nj.keep (fun q h1 h2 => hF_1 q (by omega))
  have h_p0b := h_p0b.keep (fun q h1 h2 => hF_1 q (by omega))
  have hE : ∀ q : Nat, (q < (p0 + 127) ∨ (p0 + 127) + 5 ≤ q) → Ω_1 q = Ω q := fun q g0 => (hF_1 q (by omega)).trans (hE q g0)
  refine lv_iload_n hx hb dX8_wouldReadTheSame_11 rfl (lv_at hl 1 rfl) ?_
  refine lv_aload_n hx hb dX8_wouldReadTheSame_12 rfl (lv_at hl 0 rfl) ?_
  refine o_get hx hb hts hown hK hW (inMBO_o h_p0) rfl ig8 7 (by decide) fl_X8_57 rfl dX8_wouldReadTheSame_13 ?_
  refine o_get hx hb hts hown hK hW (inBlk_o h_p0b) rfl ig0 1 (by decide) fl_X8_126 rfl dX8_wouldReadTheSame_16 ?_
  try have j_2 : 0 ≤ (p0b_0 0 1).toInt ∧ (p0b_0 0 1).toInt ≤ 12 := BI_flds (by assumption)
  refine o_SiR (rest := []) (As := [.int x1, .int (p0b_0 0 1)]) (n := 2) hx hb hml hown hts hK hN hZ hW hS hA (c_X8_isWithin l G A Ω_1 x1 (p0b_0 0 1)) ml_X8_61 st_X8_isWithin ini_X8 co_X8_isWithin (by decide +kernel) ⟨Nat.zero_le _, Nat.zero_le _⟩ hl.1 (Nat.le_of_ble_eq_true rfl) rfl rfl dX8_wouldReadTheSame_19 (fun r H locs hp hW hS => ?_)
  obtain ⟨rfl, hz_3⟩ := hp
  have J35 : ∀ (p0v_3_4 : Fn) (Ω_5 : Om) (H : Heap) (locs : List Loc), inMBO G Ω_5 p0 p0b → inSitO G Ω_5 (p0 + 18) p0n_0 p0n_1 → inJou G Ω_5 (p0 + 29) p0nj_0 p0nj_1 p0nj_2 p0nj_3 → inDev G Ω_5 (p0 + 127) p0v_0 p0v_1 p0v_2 p0v_3_4 → inBlk G Ω_5 p0b p0b_0 → (∀ q : Nat, (q < (p0 + 127) ∨ (p0 + 127) + 5 ≤ q) → Ω_5 q = Ω q) → oW G A Ω_5 H → va_S A s.heap H locs → ∀ ls : Array Slot, lv_has ls 3 [(0, .ref p0)] → (f_X8_wouldReadTheSame_J35 p0nj_0 p0nj_1 p0nj_2 p0nj_3 p0v_0 p0v_1 p0v_2 p0b_0 p0v_3_4) = R → W p l e (headSpec (wz yX8_wouldReadTheSame cX8_wouldReadTheSame 3 (some .boolean)) ({ frames := 6, cells := 0, slots := 0, locals := 137 } : Room)).room s m ([.ref p0, .int x1, .int x2] : List Value).toArray below meth c H locs 0 0 (MQ below (va_Qi (fun (r : Int32) (Ω1 : Om) => r = R.1 ∧ (r = 0 ∨ r = 1) ∧ inDev G Ω1 (p0 + 127) (R.2.1) (R.2.2.1) (R.2.2.2.1) (R.2.2.2.2) ∧ (∀ q : Nat, (q < (p0 + 127) ∨ (p0 + 127) + 5 ≤ q) → Ω1 q = Ω q)) (oB G A) A) ([.ref p0, .int x1, .int x2] : List Value).toArray s 0 0 A) (F0 m 35 ls []) := by
    intro p0v_3_4 Ω_5 H locs h_p0 h_p0n h_p0nj h_p0v h_p0b hE hW hS ls hl hR
    rw [f_X8_wouldReadTheSame_J35] at hR
    refine lv_aload_n hx hb dX8_wouldReadTheSame_35 rfl (lv_at hl 0 rfl) ?_
    refine o_get hx hb hts hown hK hW (inMBO_o h_p0) rfl ig8 6 (by decide) fl_X8_50 rfl dX8_wouldReadTheSame_36 ?_
    refine lv_aload_n hx hb dX8_wouldReadTheSame_39 rfl (lv_at hl 0 rfl) ?_
    refine o_get hx hb hts hown hK hW (inMBO_o h_p0) rfl ig8 7 (by decide) fl_X8_57 rfl dX8_wouldReadTheSame_40 ?_
    refine o_Vv (rest := []) (As := [.ref p0b]) (n := 1) hx hb hml hown hts hK hN hZ hW hS hA (c_X1_restart l G A Ω_5 (p0 + 127) p0b p0v_0 p0v_1 p0v_2 p0v_3_4 p0b_0 (by omega) hB_p0b h_p0v h_p0b) (inDev_o h_p0v) rfl (good_V ml_X8_247 im_X1_restart se_X1_restart ini_X1 co_X1_restart) (by decide +kernel) ⟨Nat.zero_le _, Nat.zero_le _⟩ hl.1 (Nat.le_of_ble_eq_true rfl) rfl rfl dX8_wouldReadTheSame_43 (fun Ω_6 H locs hp hW hS => ?_)
    obtain ⟨h_p0v, hF_6⟩ := hp
    have h_p0 := h_p0.keep (fun q h1 h2 => hF_6 q (by omega))
    have h_p0n := h_p0n.keep (fun q h1 h2 => hF_6 q (by omega))
    have h_p0nj := h_p0nj.keep (fun q h1 h2 => hF_6 q (by omega))
    have h_p0b := h_p0b.keep (fun q h1 h2 => hF_6 q (by omega))
    have hE : ∀ q : Nat, (q < (p0 + 127) ∨ (p0 + 127) + 5 ≤ q) → Ω_6 q = Ω q := fun q g0 => (hF_6 q (by omega)).trans (hE q g0)
    generalize (f_X1_restart p0v_0 p0v_1 p0v_2 p0b_0) = Z_6 at h_p0v hR
    obtain ⟨z6_0, z6_1, z6_2⟩ := Z_6
    dsimp only at h_p0v hR
    rw [f_X8_wouldReadTheSame_C46] at hR
    refine lv_aload_n hx hb dX8_wouldReadTheSame_46 rfl (lv_at hl 0 rfl) ?_
    refine o_get hx hb hts hown hK hW (inMBO_o h_p0) rfl ig8 2 (by decide) fl_X8_28 rfl dX8_wouldReadTheSame_47 ?_
    refine o_get hx hb hts hown hK hW (inSitO_o h_p0n) rfl ig5 2 (by decide) fl_X8_92 rfl dX8_wouldReadTheSame_50 ?_
    refine lv_aload_n hx hb dX8_wouldReadTheSame_53 rfl (lv_at hl 0 rfl) ?_
    refine o_get hx hb hts hown hK hW (inMBO_o h_p0) rfl ig8 6 (by decide) fl_X8_50 rfl dX8_wouldReadTheSame_54 ?_
    refine lv_aload_n hx hb dX8_wouldReadTheSame_57 rfl (lv_at hl 0 rfl) ?_
    refine o_get hx hb hts hown hK hW (inMBO_o h_p0) rfl ig8 7 (by decide) fl_X8_57 rfl dX8_wouldReadTheSame_58 ?_
    refine o_Vi (rest := []) (As := [.ref (p0 + 127), .ref p0b]) (n := 2) hx hb hml hown hts hK hN hZ hW hS hA (c_X3_agreesWith l G A Ω_6 (p0 + 29) (p0 + 127) p0b p0nj_0 p0nj_1 p0nj_2 p0nj_3 z6_0 z6_1 z6_2 p0v_3_4 p0b_0 (by omega) (by omega) (by omega) (by omega) hB_p0b h_p0nj h_p0v h_p0b) (inJou_o h_p0nj) rfl (good_V ml_X8_248 im_X3_agreesWith se_X3_agreesWith ini_X3 co_X3_agreesWith) (by decide +kernel) ⟨Nat.zero_le _, Nat.zero_le _⟩ hl.1 (Nat.le_of_ble_eq_true rfl) rfl rfl dX8_wouldReadTheSame_61 (fun r Ω_7 H locs hp hW hS => ?_)
    obtain ⟨rfl, hz_7, h_p0v, hF_7⟩ := hp
    have h_p0 := h_p0.keep (fun q h1 h2 => hF_7 q (by omega))
    have h_p0n := h_p0n.keep (fun q h1 h2 => hF_7 q (by omega))
    have h_p0nj := h_p0nj.keep (fun q h1 h2 => hF_7 q (by omega))
    have h_p0b := h_p0b.keep (fun q h1 h2 => hF_7 q (by omega))
    have hE : ∀ q : Nat, (q < (p0 + 127) ∨ (p0 + 127) + 5 ≤ q) → Ω_7 q = Ω q := fun q g0 => (hF_7 q (by omega)).trans (hE q g0)
    generalize (f_X3_agreesWith p0nj_0 p0nj_1 p0nj_2 p0nj_3 z6_0 z6_1 z6_2 p0v_3_4 p0b_0) = Z_7 at h_p0v hR hz_7 ⊢
    obtain ⟨z7_0, z7_1, z7_2, z7_3⟩ := Z_7
    dsimp only at h_p0v hR hz_7 ⊢
    rw [f_X8_wouldReadTheSame_C64] at hR
    subst hR
    exact W.zret (v := z7_0) hx hb hr (nb01 hz_7) (fun t ht hW9 => ⟨⟨z7_0, Ω_7, rfl, ⟨rfl, hz_7, h_p0v, hE⟩, by rw [oB, ht]; exact hW⟩, hS.F ht⟩) hS.2.2 dX8_wouldReadTheSame_64
  have j_9 : (0 : Int32).toInt = 0 := by decide
  refine lv_if_eq (tgt := 35) hx hb dX8_wouldReadTheSame_22 (by decide) (fun c_8 => ?_) (fun c_8 => ?_)
  · rw [if_pos c_8] at hR
    have i_8 := congrArg Int32.toInt c_8
    exact J35 (f_X1_mend p0v_3 p0b_0) Ω_1 H locs h_p0 h_p0n h_p0nj h_p0v h_p0b hE hW hS ls (lv_sub hl [0] rfl) hR
  · rw [if_neg c_8] at hR
    have i_8 := rne c_8
    have b_c_8 := rIW c_8
    refine lv_aload_n hx hb dX8_wouldReadTheSame_25 rfl (lv_at hl 0 rfl) ?_
    refine o_get hx hb hts hown hK hW (inMBO_o h_p0) rfl ig8 6 (by decide) fl_X8_50 rfl dX8_wouldReadTheSame_26 ?_
    refine o_get hx hb hts hown hK hW (inDev_o h_p0v) rfl ig1 3 (by decide) fl_X8_129 rfl dX8_wouldReadTheSame_29 ?_
    refine lv_iload_n hx hb dX8_wouldReadTheSame_32 rfl (lv_at hl 1 rfl) ?_
    refine lv_iload_n hx hb dX8_wouldReadTheSame_33 rfl (lv_at hl 2 rfl) ?_
    refine wDev_3 hx hb hK hW hS hA h_p0v (vp_in_iff.mpr ⟨by omega, by omega⟩) dX8_wouldReadTheSame_34 (fun Ω_10 H locs h_p0v hF_10 hW hS => ?_)
    have h_p0 := h_p0.keep (fun q h1 h2 => hF_10 q (by omega))
    have h_p0n := h_p0n.keep (fun q h1 h2 => hF_10 q (by omega))
    have h_p0nj := h_p0nj.keep (fun q h1 h2 => hF_10 q (by omega))
    have h_p0b := h_p0b.keep (fun q h1 h2 => hF_10 q (by omega))
    have hE : ∀ q : Nat, (q < (p0 + 127) ∨ (p0 + 127) + 5 ≤ q) → Ω_10 q = Ω q := fun q g0 => (hF_10 q (by omega)).trans (hE q g0)
    exact J35 (upd (f_X1_mend p0v_3 p0b_0) x1.toNatClampNeg x2) Ω_10 H locs h_p0 h_p0n h_p0nj h_p0v h_p0b hE hW hS ls (lv_sub hl [0] rfl) hR
set_option maxHeartbeats 4000000 in
set_option maxRecDepth 100000 in
theorem c_X8_suspects (l : Launch) (G : Gm) (A : Nat → Prop) (Ω : Om) (p0 : Nat) (p0b : Nat) (p0pb : Nat) (p0n_0 : Int32) (p0n_1 : Int32) (p0nj_0 : Int32) (p0nj_1 : Fn) (p0nj_2 : Fn) (p0nj_3 : Fn) (p0v_0 : Fn) (p0v_1 : Fn) (p0v_2 : Fn) (p0v_3 : Fn) (p0b_0 : Blk) (x1 : Int32) (hbo : (p0b = p0 + 4 ∧ p0pb = p0 + 132) ∨ (p0b = p0 + 132 ∧ p0pb = p0 + 4)) (hJ_p0nj : 0 ≤ p0nj_0.toInt ∧ p0nj_0.toInt ≤ 20) (hB_p0b : BlkInv p0b_0) (h_p0 : inMBO G Ω p0 p0b) (h_p0n : inSitO G Ω (p0 + 18) p0n_0 p0n_1) (h_p0nj : inJou G Ω (p0 + 29) p0nj_0 p0nj_1 p0nj_2 p0nj_3) (h_p0v : inDev G Ω (p0 + 127) p0v_0 p0v_1 p0v_2 p0v_3) (h_p0b : inBlk G Ω p0b p0b_0) : Met l yX8_suspects (wz yX8_suspects cX8_suspects 5 (some .int)) ({ frames := 7, cells := 0, slots := 0, locals := 159 } : Room) (va_Pc [.ref p0, .int x1] (oS G A Ω)) (va_Qi (fun (r : Int32) (Ω1 : Om) => r = (f_X8_suspects p0nj_0 p0nj_1 p0nj_2 p0nj_3 p0v_0 p0v_1 p0v_2 p0v_3 p0b_0 x1).1 ∧ inDev G Ω1 (p0 + 127) ((f_X8_suspects p0nj_0 p0nj_1 p0nj_2 p0nj_3 p0v_0 p0v_1 p0v_2 p0v_3 p0b_0 x1).2.1) ((f_X8_suspects p0nj_0 p0nj_1 p0nj_2 p0nj_3 p0v_0 p0v_1 p0v_2 p0v_3 p0b_0 x1).2.2.1) ((f_X8_suspects p0nj_0 p0nj_1 p0nj_2 p0nj_3 p0v_0 p0v_1 p0v_2 p0v_3 p0b_0 x1).2.2.2.1) ((f_X8_suspects p0nj_0 p0nj_1 p0nj_2 p0nj_3 p0v_0 p0v_1 p0v_2 p0v_3 p0b_0 x1).2.2.2.2) ∧ (∀ q : Nat, (q < (p0 + 127) ∨ (p0 + 127) + 5 ≤ q) → Ω1 q = Ω q)) (oB G A) A) 0 0 A := by
  refine Met.ofW (cc := cX8_suspects) (maxL := 5) (ret := (some .int)) (by decide) rfl ?_
  intro p e s m args below meth c s₁ B hml hv
  obtain ⟨rfl, hW, hK, hN, hZ⟩ := hv
  have hx := B.exec
  have hb := B.bytes
  have hr := B.returns
  have hts : ∀ w ∈ gt, w.before _ s = true := fun w hw => atoms_spec (ws := wz yX8_suspects cX8_suspects 5 (some .int)) B.pre w (List.mem_cons_of_mem _ hw)
  have hown : s.vm.findClass RX8 = some m.cls := findClass_of_methodNamed B.named
  have hlocks := B.notSynchronized
  have hA : ∀ q, A q → A q := fun _ h => h
  have hS : va_S A s.heap s.heap [] := va_S.rf
  have hS0 := hS
  have hl := lv_entry ([.ref p0, .int x1]) (n := 5) (Nat.le_of_ble_eq_true rfl)
  rw [lg_entry_eq]
  generalize (lg_sl ([.ref p0, .int x1]) ++ List.replicate (5 - (lg_sl ([.ref p0, .int x1])).length) Slot.unset).toArray = ls at hl ⊢
  have hl : lv_has ls 5 [(0, .ref p0), (1, .int x1)] := hl
  have hE : ∀ q : Nat, (q < (p0 + 127) ∨ (p0 + 127) + 5 ≤ q) → Ω q = Ω q := by intros; rfl
  generalize hR : (f_X8_suspects p0nj_0 p0nj_1 p0nj_2 p0nj_3 p0v_0 p0v_1 p0v_2 p0v_3 p0b_0 x1) = R
  rw [f_X8_suspects] at hR
  refine lv_iload_n hx hb dX8_suspects_0 rfl (lv_at hl 1 rfl) ?_
  refine lv_iconst (v := (3 : Int32)) hx hb dX8_suspects_1 (by decide) ?_
  have j_1 : (3 : Int32).toInt = 3 := by decide
  refine o_SiR (rest := []) (As := [.int x1, .int (3 : Int32)]) (n := 2) hx hb hml hown hts hK hN hZ hW hS hA (c_X8_isWithin l G A Ω x1 (3 : Int32)) ml_X8_61 st_X8_isWithin ini_X8 co_X8_isWithin (by decide +kernel) ⟨Nat.zero_le _, Nat.zero_le _⟩ hl.1 (Nat.le_of_ble_eq_true rfl) rfl rfl dX8_suspects_2 (fun r H locs hp hW hS => ?_)
  obtain ⟨rfl, hz_2⟩ := hp
  have j_4 : (0 : Int32).toInt = 0 := by decide
  refine lv_if_ne (tgt := 10) hx hb dX8_suspects_5 (by decide) (fun c_3 => ?_) (fun c_3 => ?_)
  · rw [if_neg c_3] at hR
    have i_3 := rne c_3
    have b_c_3 := rIW c_3
    refine lv_iload_n hx hb dX8_suspects_10 rfl (lv_at hl 1 rfl) ?_
    refine lv_iconst (v := (2 : Int32)) hx hb dX8_suspects_11 (by decide) ?_
    have j_6 : (2 : Int32).toInt = 2 := by decide
    refine lv_icmp_ne (tgt := 32) hx hb dX8_suspects_12 (by decide) (fun c_5 => ?_) (fun c_5 => ?_)
    · rw [if_neg c_5] at hR
      have i_5 := rne c_5
      refine lv_iconst (v := (0 : Int32)) hx hb dX8_suspects_32 (by decide) ?_
      refine lv_istore_n (lv' := [(2, .int (0 : Int32)), (0, .ref p0), (1, .int x1)]) hx hb dX8_suspects_33 rfl hl (by decide) rfl (fun ls hl => ?_)
      refine lv_iconst (v := (0 : Int32)) hx hb dX8_suspects_34 (by decide) ?_
      refine lv_istore_n (lv' := [(3, .int (0 : Int32)), (2, .int (0 : Int32)), (0, .ref p0), (1, .int x1)]) hx hb dX8_suspects_35 rfl hl (by decide) rfl (fun ls hl => ?_)
      have L36 : ∀ (n_8 : Nat) (x2_7 : Int32) (x3_7 : Int32) (p0v_0_7 : Fn) (p0v_1_7 : Fn) (p0v_2_7 : Fn) (p0v_3_7 : Fn) (Ω_9 : Om) (H : Heap) (locs : List Loc), (0 ≤ x3_7.toInt ∧ x3_7.toInt ≤ 12 ∧ 12 - x3_7.toInt < n_8) → inMBO G Ω_9 p0 p0b → inSitO G Ω_9 (p0 + 18) p0n_0 p0n_1 → inJou G Ω_9 (p0 + 29) p0nj_0 p0nj_1 p0nj_2 p0nj_3 → inDev G Ω_9 (p0 + 127) p0v_0_7 p0v_1_7 p0v_2_7 p0v_3_7 → inBlk G Ω_9 p0b p0b_0 → (∀ q : Nat, (q < (p0 + 127) ∨ (p0 + 127) + 5 ≤ q) → Ω_9 q = Ω q) → oW G A Ω_9 H → va_S A s.heap H locs → ∀ ls : Array Slot, lv_has ls 5 [(0, .ref p0), (1, .int x1), (2, .int x2_7), (3, .int x3_7)] → (f_X8_suspects_L36 p0nj_0 p0nj_1 p0nj_2 p0nj_3 p0b_0 x1 n_8 x2_7 x3_7 p0v_0_7 p0v_1_7 p0v_2_7 p0v_3_7) = R → W p l e (headSpec (wz yX8_suspects cX8_suspects 5 (some .int)) ({ frames := 7, cells := 0, slots := 0, locals := 159 } : Room)).room s m ([.ref p0, .int x1] : List Value).toArray below meth c H locs 0 0 (MQ below (va_Qi (fun (r : Int32) (Ω1 : Om) => r = R.1 ∧ inDev G Ω1 (p0 + 127) (R.2.1) (R.2.2.1) (R.2.2.2.1) (R.2.2.2.2) ∧ (∀ q : Nat, (q < (p0 + 127) ∨ (p0 + 127) + 5 ≤ q) → Ω1 q = Ω q)) (oB G A) A) ([.ref p0, .int x1] : List Value).toArray s 0 0 A) (F0 m 36 ls []) := by
        intro n_8
        induction n_8 with
        | zero =>
          intro x2_7 x3_7 p0v_0_7 p0v_1_7 p0v_2_7 p0v_3_7 Ω_9 H locs v_36_0 h_p0 h_p0n h_p0nj h_p0v h_p0b hE hW hS ls hl hR
          exfalso
          omega
        | succ n_8 ih36 =>
          intro x2_7 x3_7 p0v_0_7 p0v_1_7 p0v_2_7 p0v_3_7 Ω_9 H locs v_36_0 h_p0 h_p0n h_p0nj h_p0v h_p0b hE hW hS ls hl hR
          rw [f_X8_suspects_L36] at hR
          refine lv_iload_n hx hb dX8_suspects_36 rfl (lv_at hl 3 rfl) ?_
          refine lv_aload_n hx hb dX8_suspects_37 rfl (lv_at hl 0 rfl) ?_
          refine o_get hx hb hts hown hK hW (inMBO_o h_p0) rfl ig8 7 (by decide) fl_X8_57 rfl dX8_suspects_38 ?_
          refine o_get hx hb hts hown hK hW (inBlk_o h_p0b) rfl ig0 1 (by decide) fl_X8_126 rfl dX8_suspects_41 ?_
          try have j_11 : 0 ≤ (p0b_0 0 1).toInt ∧ (p0b_0 0 1).toInt ≤ 12 := BI_flds (by assumption)
          refine lv_icmp_ge (tgt := 112) hx hb dX8_suspects_44 (by decide) (fun c_10 => ?_) (fun c_10 => ?_)
          · rw [if_pos c_10] at hR
            have i_10 := rle c_10
            refine lv_iload_n hx hb dX8_suspects_112 rfl (lv_at hl 1 rfl) ?_
            refine lv_iconst (v := (1 : Int32)) hx hb dX8_suspects_113 (by decide) ?_
            have j_13 : (1 : Int32).toInt = 1 := by decide
            refine lv_icmp_ne (tgt := 122) hx hb dX8_suspects_114 (by decide) (fun c_12 => ?_) (fun c_12 => ?_)
            · rw [if_neg c_12] at hR
              have i_12 := rne c_12
              refine lv_iload_n hx hb dX8_suspects_122 rfl (lv_at hl 2 rfl) ?_
              subst hR
              exact W.iret (v := x2_7) hx hb hr (fun t ht hW9 => ⟨⟨x2_7, Ω_9, rfl, ⟨rfl, h_p0v, hE⟩, by rw [oB, ht]; exact hW⟩, hS.F ht⟩) hS.2.2 dX8_suspects_123
            · rw [if_pos c_12] at hR
              have i_12 := congrArg Int32.toInt c_12
              refine lv_bipush (v := (-9 : Int32)) hx hb dX8_suspects_117 (by decide) ?_
              refine lv_goto (tgt := 123) hx hb dX8_suspects_119 (by decide) ?_
              subst hR
              exact W.iret (v := (-9 : Int32)) hx hb hr (fun t ht hW9 => ⟨⟨(-9 : Int32), Ω_9, rfl, ⟨rfl, h_p0v, hE⟩, by rw [oB, ht]; exact hW⟩, hS.F ht⟩) hS.2.2 dX8_suspects_123
          · rw [if_neg c_10] at hR
            have i_10 := rnle c_10
            refine lv_iconst (v := (0 : Int32)) hx hb dX8_suspects_47 (by decide) ?_
            refine lv_istore (lv' := [(4, .int (0 : Int32)), (0, .ref p0), (1, .int x1), (2, .int x2_7), (3, .int x3_7)]) hx hb dX8_suspects_48 hl (by decide) rfl (fun ls hl => ?_)
            have L50 : ∀ (n_15 : Nat) (x2_14 : Int32) (x4_14 : Int32) (p0v_0_14 : Fn) (p0v_1_14 : Fn) (p0v_2_14 : Fn) (p0v_3_14 : Fn) (Ω_16 : Om) (H : Heap) (locs : List Loc), (0 ≤ x4_14.toInt ∧ x4_14.toInt ≤ 8 ∧ 8 - x4_14.toInt < n_15) → inMBO G Ω_16 p0 p0b → inSitO G Ω_16 (p0 + 18) p0n_0 p0n_1 → inJou G Ω_16 (p0 + 29) p0nj_0 p0nj_1 p0nj_2 p0nj_3 → inDev G Ω_16 (p0 + 127) p0v_0_14 p0v_1_14 p0v_2_14 p0v_3_14 → inBlk G Ω_16 p0b p0b_0 → (∀ q : Nat, (q < (p0 + 127) ∨ (p0 + 127) + 5 ≤ q) → Ω_16 q = Ω q) → oW G A Ω_16 H → va_S A s.heap H locs → ∀ ls : Array Slot, lv_has ls 5 [(0, .ref p0), (1, .int x1), (2, .int x2_14), (3, .int x3_7), (4, .int x4_14)] → (f_X8_suspects_L50 p0nj_0 p0nj_1 p0nj_2 p0nj_3 p0b_0 x1 x3_7 (f_X8_suspects_L36 p0nj_0 p0nj_1 p0nj_2 p0nj_3 p0b_0 x1 n_8) n_15 x2_14 x4_14 p0v_0_14 p0v_1_14 p0v_2_14 p0v_3_14) = R → W p l e (headSpec (wz yX8_suspects cX8_suspects 5 (some .int)) ({ frames := 7, cells := 0, slots := 0, locals := 159 } : Room)).room s m ([.ref p0, .int x1] : List Value).toArray below meth c H locs 0 0 (MQ below (va_Qi (fun (r : Int32) (Ω1 : Om) => r = R.1 ∧ inDev G Ω1 (p0 + 127) (R.2.1) (R.2.2.1) (R.2.2.2.1) (R.2.2.2.2) ∧ (∀ q : Nat, (q < (p0 + 127) ∨ (p0 + 127) + 5 ≤ q) → Ω1 q = Ω q)) (oB G A) A) ([.ref p0, .int x1] : List Value).toArray s 0 0 A) (F0 m 50 ls []) := by
              intro n_15
              induction n_15 with
              | zero =>
                intro x2_14 x4_14 p0v_0_14 p0v_1_14 p0v_2_14 p0v_3_14 Ω_16 H locs v_50_0 h_p0 h_p0n h_p0nj h_p0v h_p0b hE hW hS ls hl hR
                exfalso
                omega
              | succ n_15 ih50 =>
                intro x2_14 x4_14 p0v_0_14 p0v_1_14 p0v_2_14 p0v_3_14 Ω_16 H locs v_50_0 h_p0 h_p0n h_p0nj h_p0v h_p0b hE hW hS ls hl hR
                rw [f_X8_suspects_L50] at hR
                refine lv_iload hx hb dX8_suspects_50 (lv_at hl 4 rfl) ?_
                refine lv_bipush (v := (8 : Int32)) hx hb dX8_suspects_52 (by decide) ?_
                have j_18 : (8 : Int32).toInt = 8 := by decide
                refine lv_icmp_ge (tgt := 106) hx hb dX8_suspects_54 (by decide) (fun c_17 => ?_) (fun c_17 => ?_)
                · rw [if_pos c_17] at hR
                  have i_17 := rle c_17
                  refine lv_iinc (v := (x3_7 + (1 : Int32))) (lv' := [(3, .int (x3_7 + (1 : Int32))), (0, .ref p0), (1, .int x1), (2, .int x2_14), (4, .int x4_14)]) hx hb dX8_suspects_106 hl (k := 3) rfl rfl (by decide) rfl (fun ls hl => ?_)
                  refine lv_goto (tgt := 36) hx hb dX8_suspects_109 (by decide) ?_
                  have j_19 : (1 : Int32).toInt = 1 := by decide
                  try have j_20 : (x3_7 + (1 : Int32)).toInt = x3_7.toInt + (1 : Int32).toInt := fb_addI (by omega) (by omega)
                  exact ih36 x2_14 (x3_7 + (1 : Int32)) p0v_0_14 p0v_1_14 p0v_2_14 p0v_3_14 Ω_16 H locs (by omega) h_p0 h_p0n h_p0nj h_p0v h_p0b hE hW hS ls (lv_sub hl [1, 2, 3, 0] rfl) hR
                · rw [if_neg c_17] at hR
                  have i_17 := rnle c_17
                  refine lv_iload hx hb dX8_suspects_57 (lv_at hl 4 rfl) ?_
                  refine lv_aload_n hx hb dX8_suspects_59 rfl (lv_at hl 0 rfl) ?_
                  refine o_get hx hb hts hown hK hW (inMBO_o h_p0) rfl ig8 7 (by decide) fl_X8_57 rfl dX8_suspects_60 ?_
                  refine o_get hx hb hts hown hK hW (inBlk_o h_p0b) rfl ig0 7 (by decide) fl_X8_146 rfl dX8_suspects_63 ?_
                  refine lv_iload_n hx hb dX8_suspects_66 rfl (lv_at hl 3 rfl) ?_
                  refine o_iald hx hb hK hW (inBlk_a4 h_p0b) (vp_in_iff.mpr ⟨by omega, by omega⟩) dX8_suspects_67 ?_
                  refine lv_icmp_eq (tgt := 100) hx hb dX8_suspects_68 (by decide) (fun c_21 => ?_) (fun c_21 => ?_)
                  · rw [if_pos c_21] at hR
                    have i_21 := congrArg Int32.toInt c_21
                    refine lv_iinc (v := (x4_14 + (1 : Int32))) (lv' := [(4, .int (x4_14 + (1 : Int32))), (0, .ref p0), (1, .int x1), (2, .int x2_14), (3, .int x3_7)]) hx hb dX8_suspects_100 hl (k := 4) rfl rfl (by decide) rfl (fun ls hl => ?_)
                    refine lv_goto (tgt := 50) hx hb dX8_suspects_103 (by decide) ?_
                    have j_22 : (1 : Int32).toInt = 1 := by decide
                    try have j_23 : (x4_14 + (1 : Int32)).toInt = x4_14.toInt + (1 : Int32).toInt := fb_addI (by omega) (by omega)
                    exact ih50 x2_14 (x4_14 + (1 : Int32)) p0v_0_14 p0v_1_14 p0v_2_14 p0v_3_14 Ω_16 H locs (by omega) h_p0 h_p0n h_p0nj h_p0v h_p0b hE hW hS ls (lv_sub hl [1, 2, 3, 4, 0] rfl) hR
                  · rw [if_neg c_21] at hR
                    have i_21 := rne c_21
                    refine lv_aload_n hx hb dX8_suspects_71 rfl (lv_at hl 0 rfl) ?_
                    refine lv_iload_n hx hb dX8_suspects_72 rfl (lv_at hl 3 rfl) ?_
                    refine lv_iload hx hb dX8_suspects_73 (lv_at hl 4 rfl) ?_
                    refine o_Vi (rest := []) (As := [.int x3_7, .int x4_14]) (n := 2) hx hb hml hown hts hK hN hZ hW hS hA (c_X8_wouldReadTheSame l G A Ω_16 p0 p0b p0pb p0n_0 p0n_1 p0nj_0 p0nj_1 p0nj_2 p0nj_3 p0v_0_14 p0v_1_14 p0v_2_14 p0v_3_14 p0b_0 x3_7 x4_14 hbo (by omega) hB_p0b h_p0 h_p0n h_p0nj h_p0v h_p0b) (inMBO_o h_p0) rfl (good_V ml_X8_209 im_X8_wouldReadTheSame se_X8_wouldReadTheSame ini_X8 co_X8_wouldReadTheSame) (by decide +kernel) ⟨Nat.zero_le _, Nat.zero_le _⟩ hl.1 (Nat.le_of_ble_eq_true rfl) rfl rfl dX8_suspects_75 (fun r Ω_24 H locs hp hW hS => ?_)
                    obtain ⟨rfl, hz_24, h_p0v, hF_24⟩ := hp
                    have h_p0 := h_p0.keep (fun q h1 h2 => hF_24 q (by omega))
                    have h_p0n := h_p0n.keep (fun q h1 h2 => hF_24 q (by omega))
                    have h_p0nj := h_p0nj.keep (fun q h1 h2 => hF_24 q (by omega))
                    have h_p0b := h_p0b.keep (fun q h1 h2 => hF_24 q (by omega))
                    have hE : ∀ q : Nat, (q < (p0 + 127) ∨ (p0 + 127) + 5 ≤ q) → Ω_24 q = Ω q := fun q g0 => (hF_24 q (by omega)).trans (hE q g0)
                    generalize (f_X8_wouldReadTheSame p0nj_0 p0nj_1 p0nj_2 p0nj_3 p0v_0_14 p0v_1_14 p0v_2_14 p0v_3_14 p0b_0 x3_7 x4_14) = Z_24 at h_p0v hR hz_24 ⊢
                    obtain ⟨z24_0, z24_1, z24_2, z24_3, z24_4⟩ := Z_24
                    dsimp only at h_p0v hR hz_24 ⊢
                    rw [f_X8_suspects_C78] at hR
                    refine lv_if_ne (tgt := 84) hx hb dX8_suspects_78 (by decide) (fun c_25 => ?_) (fun c_25 => ?_)
                    · rw [if_neg c_25] at hR
                      have i_25 := rne c_25
                      refine lv_iload_n hx hb dX8_suspects_84 rfl (lv_at hl 1 rfl) ?_
                      refine lv_iconst (v := (1 : Int32)) hx hb dX8_suspects_85 (by decide) ?_
                      have j_27 : (1 : Int32).toInt = 1 := by decide
                      refine lv_icmp_ne (tgt := 97) hx hb dX8_suspects_86 (by decide) (fun c_26 => ?_) (fun c_26 => ?_)
                      · rw [if_neg c_26] at hR
                        have i_26 := rne c_26
                        refine lv_iinc (v := (x2_14 + (1 : Int32))) (lv' := [(2, .int (x2_14 + (1 : Int32))), (0, .ref p0), (1, .int x1), (3, .int x3_7), (4, .int x4_14)]) hx hb dX8_suspects_97 hl (k := 2) rfl rfl (by decide) rfl (fun ls hl => ?_)
                        refine lv_iinc (v := (x4_14 + (1 : Int32))) (lv' := [(4, .int (x4_14 + (1 : Int32))), (2, .int (x2_14 + (1 : Int32))), (0, .ref p0), (1, .int x1), (3, .int x3_7)]) hx hb dX8_suspects_100 hl (k := 4) rfl rfl (by decide) rfl (fun ls hl => ?_)
                        refine lv_goto (tgt := 50) hx hb dX8_suspects_103 (by decide) ?_
                        try have j_28 : (x2_14 + (1 : Int32)).toInt = x2_14.toInt + (1 : Int32).toInt := fb_addI (by omega) (by omega)
                        try have j_29 : (x4_14 + (1 : Int32)).toInt = x4_14.toInt + (1 : Int32).toInt := fb_addI (by omega) (by omega)
                        exact ih50 (x2_14 + (1 : Int32)) (x4_14 + (1 : Int32)) z24_1 z24_2 z24_3 z24_4 Ω_24 H locs (by omega) h_p0 h_p0n h_p0nj h_p0v h_p0b hE hW hS ls (lv_sub hl [2, 3, 1, 4, 0] rfl) hR
                      · rw [if_pos c_26] at hR
                        have i_26 := congrArg Int32.toInt c_26
                        refine lv_bipush (v := (8 : Int32)) hx hb dX8_suspects_89 (by decide) ?_
                        refine lv_iload_n hx hb dX8_suspects_91 rfl (lv_at hl 3 rfl) ?_
                        refine lv_imul hx hb dX8_suspects_92 ?_
                        refine lv_iload hx hb dX8_suspects_93 (lv_at hl 4 rfl) ?_
                        refine lv_iadd hx hb dX8_suspects_95 ?_
                        subst hR
                        exact W.iret (v := (((8 : Int32) * x3_7) + x4_14)) hx hb hr (fun t ht hW9 => ⟨⟨(((8 : Int32) * x3_7) + x4_14), Ω_24, rfl, ⟨rfl, h_p0v, hE⟩, by rw [oB, ht]; exact hW⟩, hS.F ht⟩) hS.2.2 dX8_suspects_96
                    · rw [if_pos c_25] at hR
                      have i_25 := congrArg Int32.toInt c_25
                      refine lv_goto (tgt := 100) hx hb dX8_suspects_81 (by decide) ?_
                      refine lv_iinc (v := (x4_14 + (1 : Int32))) (lv' := [(4, .int (x4_14 + (1 : Int32))), (0, .ref p0), (1, .int x1), (2, .int x2_14), (3, .int x3_7)]) hx hb dX8_suspects_100 hl (k := 4) rfl rfl (by decide) rfl (fun ls hl => ?_)
                      refine lv_goto (tgt := 50) hx hb dX8_suspects_103 (by decide) ?_
                      have j_30 : (1 : Int32).toInt = 1 := by decide
                      try have j_31 : (x4_14 + (1 : Int32)).toInt = x4_14.toInt + (1 : Int32).toInt := fb_addI (by omega) (by omega)
                      exact ih50 x2_14 (x4_14 + (1 : Int32)) z24_1 z24_2 z24_3 z24_4 Ω_24 H locs (by omega) h_p0 h_p0n h_p0nj h_p0v h_p0b hE hW hS ls (lv_sub hl [1, 2, 3, 4, 0] rfl) hR
            exact L50 4000 x2_7 (0 : Int32) p0v_0_7 p0v_1_7 p0v_2_7 p0v_3_7 Ω_9 H locs (by omega) h_p0 h_p0n h_p0nj h_p0v h_p0b hE hW hS ls (lv_sub hl [1, 2, 3, 4, 0] rfl) hR
      exact L36 4000 (0 : Int32) (0 : Int32) p0v_0 p0v_1 p0v_2 p0v_3 Ω H locs (by omega) h_p0 h_p0n h_p0nj h_p0v h_p0b hE hW hS ls (lv_sub hl [2, 3, 1, 0] rfl) hR
    · rw [if_pos c_5] at hR
      have i_5 := congrArg Int32.toInt c_5
      refine lv_aload_n hx hb dX8_suspects_15 rfl (lv_at hl 0 rfl) ?_
      refine lv_bipush (v := (-9 : Int32)) hx hb dX8_suspects_16 (by decide) ?_
      refine lv_bipush (v := (-9 : Int32)) hx hb dX8_suspects_18 (by decide) ?_
      have j_32 : (-9 : Int32).toInt = -9 := by decide
      refine o_Vi (rest := []) (As := [.int (-9 : Int32), .int (-9 : Int32)]) (n := 2) hx hb hml hown hts hK hN hZ hW hS hA (c_X8_wouldReadTheSame l G A Ω p0 p0b p0pb p0n_0 p0n_1 p0nj_0 p0nj_1 p0nj_2 p0nj_3 p0v_0 p0v_1 p0v_2 p0v_3 p0b_0 (-9 : Int32) (-9 : Int32) hbo (by omega) hB_p0b h_p0 h_p0n h_p0nj h_p0v h_p0b) (inMBO_o h_p0) rfl (good_V ml_X8_209 im_X8_wouldReadTheSame se_X8_wouldReadTheSame ini_X8 co_X8_wouldReadTheSame) (by decide +kernel) ⟨Nat.zero_le _, Nat.zero_le _⟩ hl.1 (Nat.le_of_ble_eq_true rfl) rfl rfl dX8_suspects_20 (fun r Ω_33 H locs hp hW hS => ?_)
      obtain ⟨rfl, hz_33, h_p0v, hF_33⟩ := hp
      have h_p0 := h_p0.keep (fun q h1 h2 => hF_33 q (by omega))
      have h_p0n := h_p0n.keep (fun q h1 h2 => hF_33 q (by omega))
      have h_p0nj := h_p0nj.keep (fun q h1 h2 => hF_33 q (by omega))
      have h_p0b := h_p0b.keep (fun q h1 h2 => hF_33 q (by omega))
      have hE : ∀ q : Nat, (q < (p0 + 127) ∨ (p0 + 127) + 5 ≤ q) → Ω_33 q = Ω q := fun q g0 => (hF_33 q (by omega)).trans (hE q g0)
      generalize (f_X8_wouldReadTheSame p0nj_0 p0nj_1 p0nj_2 p0nj_3 p0v_0 p0v_1 p0v_2 p0v_3 p0b_0 (-9 : Int32) (-9 : Int32)) = Z_33 at h_p0v hR hz_33 ⊢
      obtain ⟨z33_0, z33_1, z33_2, z33_3, z33_4⟩ := Z_33
      dsimp only at h_p0v hR hz_33 ⊢
      rw [f_X8_suspects_C23] at hR
      refine lv_if_eq (tgt := 30) hx hb dX8_suspects_23 (by decide) (fun c_34 => ?_) (fun c_34 => ?_)
      · rw [if_pos c_34] at hR
        have i_34 := congrArg Int32.toInt c_34
        refine lv_iconst (v := (0 : Int32)) hx hb dX8_suspects_30 (by decide) ?_
        subst hR
        exact W.iret (v := (0 : Int32)) hx hb hr (fun t ht hW9 => ⟨⟨(0 : Int32), Ω_33, rfl, ⟨rfl, h_p0v, hE⟩, by rw [oB, ht]; exact hW⟩, hS.F ht⟩) hS.2.2 dX8_suspects_31
      · rw [if_neg c_34] at hR
        have i_34 := rne c_34
        refine lv_iconst (v := (1 : Int32)) hx hb dX8_suspects_26 (by decide) ?_
        refine lv_goto (tgt := 31) hx hb dX8_suspects_27 (by decide) ?_
        subst hR
        exact W.iret (v := (1 : Int32)) hx hb hr (fun t ht hW9 => ⟨⟨(1 : Int32), Ω_33, rfl, ⟨rfl, h_p0v, hE⟩, by rw [oB, ht]; exact hW⟩, hS.F ht⟩) hS.2.2 dX8_suspects_31
  · rw [if_pos c_3] at hR
    have i_3 := congrArg Int32.toInt c_3
    refine lv_iconst (v := (-1 : Int32)) hx hb dX8_suspects_8 (by decide) ?_
    subst hR
    exact W.iret (v := (-1 : Int32)) hx hb hr (fun t ht hW9 => ⟨⟨(-1 : Int32), Ω, rfl, ⟨rfl, h_p0v, hE⟩, by rw [oB, ht]; exact hW⟩, hS.F ht⟩) hS.2.2 dX8_suspects_9
set_option maxHeartbeats 4000000 in
set_option maxRecDepth 100000 in
theorem c_X8_clashes (l : Launch) (G : Gm) (A : Nat → Prop) (Ω : Om) (p0 : Nat) (p0b : Nat) (p0pb : Nat) (p0b_0 : Blk) (x1 : Int32) (hbo : (p0b = p0 + 4 ∧ p0pb = p0 + 132) ∨ (p0b = p0 + 132 ∧ p0pb = p0 + 4)) (hB_p0b : BlkInv p0b_0) (h_p0 : inMBO G Ω p0 p0b) (h_p0b : inBlk G Ω p0b p0b_0) : Met l yX8_clashes (wz yX8_clashes cX8_clashes 5 (some .int)) ({ frames := 1, cells := 0, slots := 0, locals := 23 } : Room) (va_Pc [.ref p0, .int x1] (oS G A Ω)) (va_Qi (fun (r : Int32) (Ω1 : Om) => r = (f_X8_clashes p0b_0 x1) ∧ Ω1 = Ω) (oB G A) A) 0 0 A := by
  refine Met.ofW (cc := cX8_clashes) (maxL := 5) (ret := (some .int)) (by decide) rfl ?_
  intro p e s m args below meth c s₁ B hml hv
  obtain ⟨rfl, hW, hK, hN, hZ⟩ := hv
  have hx := B.exec
  have hb := B.bytes
  have hr := B.returns
  have hts : ∀ w ∈ gt, w.before _ s = true := fun w hw => atoms_spec (ws := wz yX8_clashes cX8_clashes 5 (some .int)) B.pre w (List.mem_cons_of_mem _ hw)
  have hown : s.vm.findClass RX8 = some m.cls := findClass_of_methodNamed B.named
  have hlocks := B.notSynchronized
  have hA : ∀ q, A q → A q := fun _ h => h
  have hS : va_S A s.heap s.heap [] := va_S.rf
  have hS0 := hS
  have hl := lv_entry ([.ref p0, .int x1]) (n := 5) (Nat.le_of_ble_eq_true rfl)
  rw [lg_entry_eq]
  generalize (lg_sl ([.ref p0, .int x1]) ++ List.replicate (5 - (lg_sl ([.ref p0, .int x1])).length) Slot.unset).toArray = ls at hl ⊢
  have hl : lv_has ls 5 [(0, .ref p0), (1, .int x1)] := hl
  generalize hR : (f_X8_clashes p0b_0 x1) = R
  rw [f_X8_clashes] at hR
  refine lv_iload_n hx hb dX8_clashes_0 rfl (lv_at hl 1 rfl) ?_
  refine lv_iconst (v := (2 : Int32)) hx hb dX8_clashes_1 (by decide) ?_
  have j_1 : (2 : Int32).toInt = 2 := by decide
  refine o_SiR (rest := []) (As := [.int x1, .int (2 : Int32)]) (n := 2) hx hb hml hown hts hK hN hZ hW hS hA (c_X8_isWithin l G A Ω x1 (2 : Int32)) ml_X8_61 st_X8_isWithin ini_X8 co_X8_isWithin (by decide +kernel) ⟨Nat.zero_le _, Nat.zero_le _⟩ hl.1 (Nat.le_of_ble_eq_true rfl) rfl rfl dX8_clashes_2 (fun r H locs hp hW hS => ?_)
  obtain ⟨rfl, hz_2⟩ := hp
  have j_4 : (0 : Int32).toInt = 0 := by decide
  refine lv_if_ne (tgt := 10) hx hb dX8_clashes_5 (by decide) (fun c_3 => ?_) (fun c_3 => ?_)
  · rw [if_neg c_3] at hR
    have i_3 := rne c_3
    have b_c_3 := rIW c_3
    refine lv_iconst (v := (0 : Int32)) hx hb dX8_clashes_10 (by decide) ?_
    refine lv_istore_n (lv' := [(2, .int (0 : Int32)), (0, .ref p0), (1, .int x1)]) hx hb dX8_clashes_11 rfl hl (by decide) rfl (fun ls hl => ?_)
    refine lv_bipush (v := (-9 : Int32)) hx hb dX8_clashes_12 (by decide) ?_
    refine lv_istore_n (lv' := [(3, .int (-9 : Int32)), (2, .int (0 : Int32)), (0, .ref p0), (1, .int x1)]) hx hb dX8_clashes_14 rfl hl (by decide) rfl (fun ls hl => ?_)
    refine lv_bipush (v := (15 : Int32)) hx hb dX8_clashes_15 (by decide) ?_
    refine lv_istore (lv' := [(4, .int (15 : Int32)), (3, .int (-9 : Int32)), (2, .int (0 : Int32)), (0, .ref p0), (1, .int x1)]) hx hb dX8_clashes_17 hl (by decide) rfl (fun ls hl => ?_)
    have L19 : ∀ (n_6 : Nat) (x2_5 : Int32) (x3_5 : Int32) (x4_5 : Int32) (H : Heap) (locs : List Loc), (-1 ≤ x4_5.toInt ∧ x4_5.toInt ≤ 15 ∧ x4_5.toInt + 1 < n_6) → oW G A Ω H → va_S A s.heap H locs → ∀ ls : Array Slot, lv_has ls 5 [(0, .ref p0), (1, .int x1), (2, .int x2_5), (3, .int x3_5), (4, .int x4_5)] → (f_X8_clashes_L19 p0b_0 x1 n_6 x2_5 x3_5 x4_5) = R → W p l e (headSpec (wz yX8_clashes cX8_clashes 5 (some .int)) ({ frames := 1, cells := 0, slots := 0, locals := 23 } : Room)).room s m ([.ref p0, .int x1] : List Value).toArray below meth c H locs 0 0 (MQ below (va_Qi (fun (r : Int32) (Ω1 : Om) => r = R ∧ Ω1 = Ω) (oB G A) A) ([.ref p0, .int x1] : List Value).toArray s 0 0 A) (F0 m 19 ls []) := by
      intro n_6
      induction n_6 with
      | zero =>
        intro x2_5 x3_5 x4_5 H locs v_19_0 hW hS ls hl hR
        exfalso
        omega
      | succ n_6 ih19 =>
        intro x2_5 x3_5 x4_5 H locs v_19_0 hW hS ls hl hR
        rw [f_X8_clashes_L19] at hR
        refine lv_iload hx hb dX8_clashes_19 (lv_at hl 4 rfl) ?_
        refine lv_if_lt (tgt := 49) hx hb dX8_clashes_21 (by decide) (fun c_7 => ?_) (fun c_7 => ?_)
        · rw [if_pos c_7] at hR
          have i_7 := rlt c_7
          refine lv_iload_n hx hb dX8_clashes_49 rfl (lv_at hl 1 rfl) ?_
          refine lv_if_ne (tgt := 57) hx hb dX8_clashes_50 (by decide) (fun c_8 => ?_) (fun c_8 => ?_)
          · rw [if_neg c_8] at hR
            have i_8 := rne c_8
            refine lv_iload_n hx hb dX8_clashes_57 rfl (lv_at hl 3 rfl) ?_
            subst hR
            exact W.iret (v := x3_5) hx hb hr (fun t ht hW9 => ⟨⟨x3_5, Ω, rfl, ⟨rfl, rfl⟩, by rw [oB, ht]; exact hW⟩, hS.F ht⟩) hS.2.2 dX8_clashes_58
          · rw [if_pos c_8] at hR
            have i_8 := congrArg Int32.toInt c_8
            refine lv_iload_n hx hb dX8_clashes_53 rfl (lv_at hl 2 rfl) ?_
            refine lv_goto (tgt := 58) hx hb dX8_clashes_54 (by decide) ?_
            subst hR
            exact W.iret (v := x2_5) hx hb hr (fun t ht hW9 => ⟨⟨x2_5, Ω, rfl, ⟨rfl, rfl⟩, by rw [oB, ht]; exact hW⟩, hS.F ht⟩) hS.2.2 dX8_clashes_58
        · rw [if_neg c_7] at hR
          have i_7 := rnlt c_7
          refine lv_aload_n hx hb dX8_clashes_24 rfl (lv_at hl 0 rfl) ?_
          refine o_get hx hb hts hown hK hW (inMBO_o h_p0) rfl ig8 7 (by decide) fl_X8_57 rfl dX8_clashes_25 ?_
          refine lv_iload hx hb dX8_clashes_28 (lv_at hl 4 rfl) ?_
          refine o_ViR (rest := []) (As := [.int x4_5]) (n := 1) hx hb hml hown hts hK hN hZ hW hS hA (c_X0_holdersOf l G A Ω p0b p0b_0 x4_5 hB_p0b h_p0b) (inBlk_o h_p0b) rfl (good_V ml_X8_212 im_X0_holdersOf se_X0_holdersOf ini_X0 co_X0_holdersOf) (by decide +kernel) ⟨Nat.zero_le _, Nat.zero_le _⟩ hl.1 (Nat.le_of_ble_eq_true rfl) rfl rfl dX8_clashes_30 (fun r H locs hp hW hS => ?_)
          subst hp
          refine lv_iconst (v := (1 : Int32)) hx hb dX8_clashes_33 (by decide) ?_
          have j_11 : (1 : Int32).toInt = 1 := by decide
          refine lv_icmp_le (tgt := 43) hx hb dX8_clashes_34 (by decide) (fun c_10 => ?_) (fun c_10 => ?_)
          · rw [if_pos c_10] at hR
            have i_10 := rle c_10
            refine lv_iinc (v := (x4_5 + (-1 : Int32))) (lv' := [(4, .int (x4_5 + (-1 : Int32))), (0, .ref p0), (1, .int x1), (2, .int x2_5), (3, .int x3_5)]) hx hb dX8_clashes_43 hl (k := 4) rfl rfl (by decide) rfl (fun ls hl => ?_)
            refine lv_goto (tgt := 19) hx hb dX8_clashes_46 (by decide) ?_
            have j_12 : (-1 : Int32).toInt = -1 := by decide
            try have j_13 : (x4_5 + (-1 : Int32)).toInt = x4_5.toInt + (-1 : Int32).toInt := fb_addI (by omega) (by omega)
            exact ih19 x2_5 x3_5 (x4_5 + (-1 : Int32)) H locs (by omega) hW hS ls (lv_sub hl [1, 2, 3, 4, 0] rfl) hR
          · rw [if_neg c_10] at hR
            have i_10 := rnle c_10
            refine lv_iinc (v := (x2_5 + (1 : Int32))) (lv' := [(2, .int (x2_5 + (1 : Int32))), (0, .ref p0), (1, .int x1), (3, .int x3_5), (4, .int x4_5)]) hx hb dX8_clashes_37 hl (k := 2) rfl rfl (by decide) rfl (fun ls hl => ?_)
            refine lv_iload hx hb dX8_clashes_40 (lv_at hl 4 rfl) ?_
            refine lv_istore_n (lv' := [(3, .int x4_5), (2, .int (x2_5 + (1 : Int32))), (0, .ref p0), (1, .int x1), (4, .int x4_5)]) hx hb dX8_clashes_42 rfl hl (by decide) rfl (fun ls hl => ?_)
            refine lv_iinc (v := (x4_5 + (-1 : Int32))) (lv' := [(4, .int (x4_5 + (-1 : Int32))), (3, .int x4_5), (2, .int (x2_5 + (1 : Int32))), (0, .ref p0), (1, .int x1)]) hx hb dX8_clashes_43 hl (k := 4) rfl rfl (by decide) rfl (fun ls hl => ?_)
            refine lv_goto (tgt := 19) hx hb dX8_clashes_46 (by decide) ?_
            try have j_14 : (x2_5 + (1 : Int32)).toInt = x2_5.toInt + (1 : Int32).toInt := fb_addI (by omega) (by omega)
            have j_15 : (-1 : Int32).toInt = -1 := by decide
            try have j_16 : (x4_5 + (-1 : Int32)).toInt = x4_5.toInt + (-1 : Int32).toInt := fb_addI (by omega) (by omega)
            exact ih19 (x2_5 + (1 : Int32)) x4_5 (x4_5 + (-1 : Int32)) H locs (by omega) hW hS ls (lv_sub hl [3, 4, 2, 1, 0] rfl) hR
    have j_17 : (-9 : Int32).toInt = -9 := by decide
    have j_18 : (15 : Int32).toInt = 15 := by decide
    exact L19 4000 (0 : Int32) (-9 : Int32) (15 : Int32) H locs (by omega) hW hS ls (lv_sub hl [3, 4, 2, 1, 0] rfl) hR
  · rw [if_pos c_3] at hR
    have i_3 := congrArg Int32.toInt c_3
    refine lv_iconst (v := (-1 : Int32)) hx hb dX8_clashes_8 (by decide) ?_
    subst hR
    exact W.iret (v := (-1 : Int32)) hx hb hr (fun t ht hW9 => ⟨⟨(-1 : Int32), Ω, rfl, ⟨rfl, rfl⟩, by rw [oB, ht]; exact hW⟩, hS.F ht⟩) hS.2.2 dX8_clashes_9
set_option maxHeartbeats 4000000 in
set_option maxRecDepth 100000 in
theorem c_X8_touched (l : Launch) (G : Gm) (A : Nat → Prop) (Ω : Om) (p0 : Nat) (p0b : Nat) (p0pb : Nat) (p0n_0 : Int32) (p0n_1 : Int32) (p0nd_0 : Fn) (p0nd_1 : Fn) (p0nd_2 : Fn) (p0nd_3 : Fn) (p0v_0 : Fn) (p0v_1 : Fn) (p0v_2 : Fn) (p0v_3 : Fn) (p0b_0 : Blk) (x1 : Int32) (x2 : Int32) (hbo : (p0b = p0 + 4 ∧ p0pb = p0 + 132) ∨ (p0b = p0 + 132 ∧ p0pb = p0 + 4)) (hB_p0b : BlkInv p0b_0) (h_p0 : inMBO G Ω p0 p0b) (h_p0n : inSitO G Ω (p0 + 18) p0n_0 p0n_1) (h_p0nd : inDev G Ω (p0 + 19) p0nd_0 p0nd_1 p0nd_2 p0nd_3) (h_p0v : inDev G Ω (p0 + 127) p0v_0 p0v_1 p0v_2 p0v_3) (h_p0b : inBlk G Ω p0b p0b_0) : Met l yX8_touched (wz yX8_touched cX8_touched 3 (some .int)) ({ frames := 5, cells := 0, slots := 0, locals := 121 } : Room) (va_Pc [.ref p0, .int x1, .int x2] (oS G A Ω)) (va_Qi (fun (r : Int32) (Ω1 : Om) => r = (f_X8_touched p0nd_0 p0nd_1 p0nd_2 p0nd_3 p0v_0 p0v_1 p0v_2 p0v_3 p0b_0 x1 x2).1 ∧ inDev G Ω1 (p0 + 127) ((f_X8_touched p0nd_0 p0nd_1 p0nd_2 p0nd_3 p0v_0 p0v_1 p0v_2 p0v_3 p0b_0 x1 x2).2.1) ((f_X8_touched p0nd_0 p0nd_1 p0nd_2 p0nd_3 p0v_0 p0v_1 p0v_2 p0v_3 p0b_0 x1 x2).2.2.1) ((f_X8_touched p0nd_0 p0nd_1 p0nd_2 p0nd_3 p0v_0 p0v_1 p0v_2 p0v_3 p0b_0 x1 x2).2.2.2.1) ((f_X8_touched p0nd_0 p0nd_1 p0nd_2 p0nd_3 p0v_0 p0v_1 p0v_2 p0v_3 p0b_0 x1 x2).2.2.2.2) ∧ (∀ q : Nat, (q < (p0 + 127) ∨ (p0 + 127) + 5 ≤ q) → Ω1 q = Ω q)) (oB G A) A) 0 0 A := by
  refine Met.ofW (cc := cX8_touched) (maxL := 3) (ret := (some .int)) (by decide) rfl ?_
  intro p e s m args below meth c s₁ B hml hv
  obtain ⟨rfl, hW, hK, hN, hZ⟩ := hv
  have hx := B.exec
  have hb := B.bytes
  have hr := B.returns
  have hts : ∀ w ∈ gt, w.before _ s = true := fun w hw => atoms_spec (ws := wz yX8_touched cX8_touched 3 (some .int)) B.pre w (List.mem_cons_of_mem _ hw)
  have hown : s.vm.findClass RX8 = some m.cls := findClass_of_methodNamed B.named
  have hlocks := B.notSynchronized
  have hA : ∀ q, A q → A q := fun _ h => h
  have hS : va_S A s.heap s.heap [] := va_S.rf
  have hS0 := hS
  have hl := lv_entry ([.ref p0, .int x1, .int x2]) (n := 3) (Nat.le_of_ble_eq_true rfl)
  rw [lg_entry_eq]
  generalize (lg_sl ([.ref p0, .int x1, .int x2]) ++ List.replicate (3 - (lg_sl ([.ref p0, .int x1, .int x2])).length) Slot.unset).toArray = ls at hl ⊢
  have hl : lv_has ls 3 [(0, .ref p0), (1, .int x1), (2, .int x2)] := hl
  have hE : ∀ q : Nat, (q < (p0 + 127) ∨ (p0 + 127) + 5 ≤ q) → Ω q = Ω q := by intros; rfl
  generalize hR : (f_X8_touched p0nd_0 p0nd_1 p0nd_2 p0nd_3 p0v_0 p0v_1 p0v_2 p0v_3 p0b_0 x1 x2) = R
  rw [f_X8_touched] at hR
  refine lv_iload_n hx hb dX8_touched_0 rfl (lv_at hl 1 rfl) ?_
  refine lv_bipush (v := (16 : Int32)) hx hb dX8_touched_1 (by decide) ?_
  have j_1 : (16 : Int32).toInt = 16 := by decide
  refine o_SiR (rest := []) (As := [.int x1, .int (16 : Int32)]) (n := 2) hx hb hml hown hts hK hN hZ hW hS hA (c_X8_isWithin l G A Ω x1 (16 : Int32)) ml_X8_61 st_X8_isWithin ini_X8 co_X8_isWithin (by decide +kernel) ⟨Nat.zero_le _, Nat.zero_le _⟩ hl.1 (Nat.le_of_ble_eq_true rfl) rfl rfl dX8_touched_3 (fun r H locs hp hW hS => ?_)
  obtain ⟨rfl, hz_2⟩ := hp
  have j_4 : (0 : Int32).toInt = 0 := by decide
  refine lv_if_eq (tgt := 19) hx hb dX8_touched_6 (by decide) (fun c_3 => ?_) (fun c_3 => ?_)
  · rw [if_pos c_3] at hR
    have i_3 := congrArg Int32.toInt c_3
    refine lv_iconst (v := (-1 : Int32)) hx hb dX8_touched_19 (by decide) ?_
    subst hR
    exact W.iret (v := (-1 : Int32)) hx hb hr (fun t ht hW9 => ⟨⟨(-1 : Int32), Ω, rfl, ⟨rfl, h_p0v, hE⟩, by rw [oB, ht]; exact hW⟩, hS.F ht⟩) hS.2.2 dX8_touched_20
  · rw [if_neg c_3] at hR
    have i_3 := rne c_3
    have b_c_3 := rIW c_3
    refine lv_iload_n hx hb dX8_touched_9 rfl (lv_at hl 2 rfl) ?_
    refine lv_sipush (v := (256 : Int32)) hx hb dX8_touched_10 (by decide) ?_
    have j_5 : (256 : Int32).toInt = 256 := by decide
    refine o_SiR (rest := []) (As := [.int x2, .int (256 : Int32)]) (n := 2) hx hb hml hown hts hK hN hZ hW hS hA (c_X8_isWithin l G A Ω x2 (256 : Int32)) ml_X8_61 st_X8_isWithin ini_X8 co_X8_isWithin (by decide +kernel) ⟨Nat.zero_le _, Nat.zero_le _⟩ hl.1 (Nat.le_of_ble_eq_true rfl) rfl rfl dX8_touched_13 (fun r H locs hp hW hS => ?_)
    obtain ⟨rfl, hz_6⟩ := hp
    refine lv_if_ne (tgt := 21) hx hb dX8_touched_16 (by decide) (fun c_7 => ?_) (fun c_7 => ?_)
    · rw [if_neg c_7] at hR
      have i_7 := rne c_7
      have b_c_7 := rIW c_7
      refine lv_aload_n hx hb dX8_touched_21 rfl (lv_at hl 0 rfl) ?_
      refine lv_iload_n hx hb dX8_touched_22 rfl (lv_at hl 1 rfl) ?_
      refine lv_iload_n hx hb dX8_touched_23 rfl (lv_at hl 2 rfl) ?_
      refine o_Vi (rest := []) (As := [.int x1, .int x2]) (n := 2) hx hb hml hown hts hK hN hZ hW hS hA (c_X8_changedBy l G A Ω p0 p0b p0pb p0n_0 p0n_1 p0nd_0 p0nd_1 p0nd_2 p0nd_3 p0v_0 p0v_1 p0v_2 p0v_3 p0b_0 x1 x2 hbo hB_p0b h_p0 h_p0n h_p0nd h_p0v h_p0b) (inMBO_o h_p0) rfl (good_V ml_X8_106 im_X8_changedBy se_X8_changedBy ini_X8 co_X8_changedBy) (by decide +kernel) ⟨Nat.zero_le _, Nat.zero_le _⟩ hl.1 (Nat.le_of_ble_eq_true rfl) rfl rfl dX8_touched_24 (fun r Ω_8 H locs hp hW hS => ?_)
      obtain ⟨rfl, h_p0v, hF_8⟩ := hp
      have h_p0 := h_p0.keep (fun q h1 h2 => hF_8 q (by omega))
      have h_p0n := h_p0n.keep (fun q h1 h2 => hF_8 q (by omega))
      have h_p0nd := h_p0nd.keep (fun q h1 h2 => hF_8 q (by omega))
      have h_p0b := h_p0b.keep (fun q h1 h2 => hF_8 q (by omega))
      have hE : ∀ q : Nat, (q < (p0 + 127) ∨ (p0 + 127) + 5 ≤ q) → Ω_8 q = Ω q := fun q g0 => (hF_8 q (by omega)).trans (hE q g0)
      generalize (f_X8_changedBy p0nd_0 p0nd_1 p0nd_2 p0nd_3 p0v_0 p0v_1 p0v_2 p0v_3 p0b_0 x1 x2) = Z_8 at h_p0v hR ⊢
      obtain ⟨z8_0, z8_1, z8_2, z8_3, z8_4⟩ := Z_8
      dsimp only at h_p0v hR ⊢
      rw [f_X8_touched_C27] at hR
      subst hR
      exact W.iret (v := z8_0) hx hb hr (fun t ht hW9 => ⟨⟨z8_0, Ω_8, rfl, ⟨rfl, h_p0v, hE⟩, by rw [oB, ht]; exact hW⟩, hS.F ht⟩) hS.2.2 dX8_touched_27
    · rw [if_pos c_7] at hR
      have i_7 := congrArg Int32.toInt c_7
      refine lv_iconst (v := (-1 : Int32)) hx hb dX8_touched_19 (by decide) ?_
      subst hR
      exact W.iret (v := (-1 : Int32)) hx hb hr (fun t ht hW9 => ⟨⟨(-1 : Int32), Ω, rfl, ⟨rfl, h_p0v, hE⟩, by rw [oB, ht]; exact hW⟩, hS.F ht⟩) hS.2.2 dX8_touched_20
set_option maxHeartbeats 4000000 in
set_option maxRecDepth 100000 in
theorem c_X8_byteThatGives (l : Launch) (G : Gm) (A : Nat → Prop) (Ω : Om) (p0 : Nat) (p0b : Nat) (p0pb : Nat) (p0n_0 : Int32) (p0n_1 : Int32) (p0nd_0 : Fn) (p0nd_1 : Fn) (p0nd_2 : Fn) (p0nd_3 : Fn) (p0v_0 : Fn) (p0v_1 : Fn) (p0v_2 : Fn) (p0v_3 : Fn) (p0b_0 : Blk) (x1 : Int32) (x2 : Int32) (x3 : Int32) (hbo : (p0b = p0 + 4 ∧ p0pb = p0 + 132) ∨ (p0b = p0 + 132 ∧ p0pb = p0 + 4)) (hB_p0b : BlkInv p0b_0) (hi_x2 : 0 ≤ x2.toInt ∧ x2.toInt < 12) (h_p0 : inMBO G Ω p0 p0b) (h_p0n : inSitO G Ω (p0 + 18) p0n_0 p0n_1) (h_p0nd : inDev G Ω (p0 + 19) p0nd_0 p0nd_1 p0nd_2 p0nd_3) (h_p0v : inDev G Ω (p0 + 127) p0v_0 p0v_1 p0v_2 p0v_3) (h_p0b : inBlk G Ω p0b p0b_0) : Met l yX8_byteThatGives (wz yX8_byteThatGives cX8_byteThatGives 6 (some .int)) ({ frames := 4, cells := 0, slots := 0, locals := 97 } : Room) (va_Pc [.ref p0, .int x1, .int x2, .int x3] (oS G A Ω)) (va_Qi (fun (r : Int32) (Ω1 : Om) => r = (f_X8_byteThatGives p0nd_0 p0nd_1 p0nd_2 p0nd_3 p0v_0 p0v_1 p0v_2 p0v_3 p0b_0 x1 x2 x3).1 ∧ inDev G Ω1 (p0 + 127) ((f_X8_byteThatGives p0nd_0 p0nd_1 p0nd_2 p0nd_3 p0v_0 p0v_1 p0v_2 p0v_3 p0b_0 x1 x2 x3).2.1) ((f_X8_byteThatGives p0nd_0 p0nd_1 p0nd_2 p0nd_3 p0v_0 p0v_1 p0v_2 p0v_3 p0b_0 x1 x2 x3).2.2.1) ((f_X8_byteThatGives p0nd_0 p0nd_1 p0nd_2 p0nd_3 p0v_0 p0v_1 p0v_2 p0v_3 p0b_0 x1 x2 x3).2.2.2.1) ((f_X8_byteThatGives p0nd_0 p0nd_1 p0nd_2 p0nd_3 p0v_0 p0v_1 p0v_2 p0v_3 p0b_0 x1 x2 x3).2.2.2.2) ∧ (∀ q : Nat, (q < (p0 + 127) ∨ (p0 + 127) + 5 ≤ q) → Ω1 q = Ω q)) (oB G A) A) 0 0 A := by
  refine Met.ofW (cc := cX8_byteThatGives) (maxL := 6) (ret := (some .int)) (by decide) rfl ?_
  intro p e s m args below meth c s₁ B hml hv
  obtain ⟨rfl, hW, hK, hN, hZ⟩ := hv
  have hx := B.exec
  have hb := B.bytes
  have hr := B.returns
  have hts : ∀ w ∈ gt, w.before _ s = true := fun w hw => atoms_spec (ws := wz yX8_byteThatGives cX8_byteThatGives 6 (some .int)) B.pre w (List.mem_cons_of_mem _ hw)
  have hown : s.vm.findClass RX8 = some m.cls := findClass_of_methodNamed B.named
  have hlocks := B.notSynchronized
  have hA : ∀ q, A q → A q := fun _ h => h
  have hS : va_S A s.heap s.heap [] := va_S.rf
  have hS0 := hS
  have hl := lv_entry ([.ref p0, .int x1, .int x2, .int x3]) (n := 6) (Nat.le_of_ble_eq_true rfl)
  rw [lg_entry_eq]
  generalize (lg_sl ([.ref p0, .int x1, .int x2, .int x3]) ++ List.replicate (6 - (lg_sl ([.ref p0, .int x1, .int x2, .int x3])).length) Slot.unset).toArray = ls at hl ⊢
  have hl : lv_has ls 6 [(0, .ref p0), (1, .int x1), (2, .int x2), (3, .int x3)] := hl
  have hE : ∀ q : Nat, (q < (p0 + 127) ∨ (p0 + 127) + 5 ≤ q) → Ω q = Ω q := by intros; rfl
  generalize hR : (f_X8_byteThatGives p0nd_0 p0nd_1 p0nd_2 p0nd_3 p0v_0 p0v_1 p0v_2 p0v_3 p0b_0 x1 x2 x3) = R
  rw [f_X8_byteThatGives] at hR
  refine lv_aload_n hx hb dX8_byteThatGives_0 rfl (lv_at hl 0 rfl) ?_
  refine o_get hx hb hts hown hK hW (inMBO_o h_p0) rfl ig8 7 (by decide) fl_X8_57 rfl dX8_byteThatGives_1 ?_
  refine lv_iload_n hx hb dX8_byteThatGives_4 rfl (lv_at hl 1 rfl) ?_
  refine lv_iload_n hx hb dX8_byteThatGives_5 rfl (lv_at hl 2 rfl) ?_
  refine o_ViR (rest := []) (As := [.int x1, .int x2]) (n := 2) hx hb hml hown hts hK hN hZ hW hS hA (c_X0_canReach l G A Ω p0b p0b_0 x1 x2 hB_p0b (by omega) h_p0b) (inBlk_o h_p0b) rfl (good_V ml_X8_241 im_X0_canReach se_X0_canReach ini_X0 co_X0_canReach) (by decide +kernel) ⟨Nat.zero_le _, Nat.zero_le _⟩ hl.1 (Nat.le_of_ble_eq_true rfl) rfl rfl dX8_byteThatGives_6 (fun r H locs hp hW hS => ?_)
  obtain ⟨rfl, hz_1⟩ := hp
  have J19 : ∀ (s0_2 : Int32) (H : Heap) (locs : List Loc), (0 ≤ s0_2.toInt ∧ s0_2.toInt ≤ 256) → oW G A Ω H → va_S A s.heap H locs → ∀ ls : Array Slot, lv_has ls 6 [(0, .ref p0), (1, .int x1), (2, .int x2), (3, .int x3)] → (f_X8_byteThatGives_J19 p0nd_0 p0nd_1 p0nd_2 p0nd_3 p0v_0 p0v_1 p0v_2 p0v_3 p0b_0 x1 x2 x3 s0_2) = R → W p l e (headSpec (wz yX8_byteThatGives cX8_byteThatGives 6 (some .int)) ({ frames := 4, cells := 0, slots := 0, locals := 97 } : Room)).room s m ([.ref p0, .int x1, .int x2, .int x3] : List Value).toArray below meth c H locs 0 0 (MQ below (va_Qi (fun (r : Int32) (Ω1 : Om) => r = R.1 ∧ inDev G Ω1 (p0 + 127) (R.2.1) (R.2.2.1) (R.2.2.2.1) (R.2.2.2.2) ∧ (∀ q : Nat, (q < (p0 + 127) ∨ (p0 + 127) + 5 ≤ q) → Ω1 q = Ω q)) (oB G A) A) ([.ref p0, .int x1, .int x2, .int x3] : List Value).toArray s 0 0 A) (F0 m 19 ls [.int s0_2]) := by
    intro s0_2 H locs v_19_0 hW hS ls hl hR
    rw [f_X8_byteThatGives_J19] at hR
    refine lv_istore (lv' := [(4, .int s0_2), (0, .ref p0), (1, .int x1), (2, .int x2), (3, .int x3)]) hx hb dX8_byteThatGives_19 hl (by decide) rfl (fun ls hl => ?_)
    refine lv_iconst (v := (0 : Int32)) hx hb dX8_byteThatGives_21 (by decide) ?_
    refine lv_istore (lv' := [(5, .int (0 : Int32)), (4, .int s0_2), (0, .ref p0), (1, .int x1), (2, .int x2), (3, .int x3)]) hx hb dX8_byteThatGives_22 hl (by decide) rfl (fun ls hl => ?_)
    have L24 : ∀ (n_4 : Nat) (x5_3 : Int32) (p0v_0_3 : Fn) (p0v_1_3 : Fn) (p0v_2_3 : Fn) (p0v_3_3 : Fn) (Ω_5 : Om) (H : Heap) (locs : List Loc), (0 ≤ x5_3.toInt ∧ x5_3.toInt ≤ 256 ∧ 256 - x5_3.toInt < n_4) → inMBO G Ω_5 p0 p0b → inSitO G Ω_5 (p0 + 18) p0n_0 p0n_1 → inDev G Ω_5 (p0 + 19) p0nd_0 p0nd_1 p0nd_2 p0nd_3 → inDev G Ω_5 (p0 + 127) p0v_0_3 p0v_1_3 p0v_2_3 p0v_3_3 → inBlk G Ω_5 p0b p0b_0 → (∀ q : Nat, (q < (p0 + 127) ∨ (p0 + 127) + 5 ≤ q) → Ω_5 q = Ω q) → oW G A Ω_5 H → va_S A s.heap H locs → ∀ ls : Array Slot, lv_has ls 6 [(0, .ref p0), (1, .int x1), (2, .int x2), (3, .int x3), (4, .int s0_2), (5, .int x5_3)] → (f_X8_byteThatGives_L24 p0nd_0 p0nd_1 p0nd_2 p0nd_3 p0b_0 x1 x2 x3 s0_2 n_4 x5_3 p0v_0_3 p0v_1_3 p0v_2_3 p0v_3_3) = R → W p l e (headSpec (wz yX8_byteThatGives cX8_byteThatGives 6 (some .int)) ({ frames := 4, cells := 0, slots := 0, locals := 97 } : Room)).room s m ([.ref p0, .int x1, .int x2, .int x3] : List Value).toArray below meth c H locs 0 0 (MQ below (va_Qi (fun (r : Int32) (Ω1 : Om) => r = R.1 ∧ inDev G Ω1 (p0 + 127) (R.2.1) (R.2.2.1) (R.2.2.2.1) (R.2.2.2.2) ∧ (∀ q : Nat, (q < (p0 + 127) ∨ (p0 + 127) + 5 ≤ q) → Ω1 q = Ω q)) (oB G A) A) ([.ref p0, .int x1, .int x2, .int x3] : List Value).toArray s 0 0 A) (F0 m 24 ls []) := by
      intro n_4
      induction n_4 with
      | zero =>
        intro x5_3 p0v_0_3 p0v_1_3 p0v_2_3 p0v_3_3 Ω_5 H locs v_24_0 h_p0 h_p0n h_p0nd h_p0v h_p0b hE hW hS ls hl hR
        exfalso
        omega
      | succ n_4 ih24 =>
        intro x5_3 p0v_0_3 p0v_1_3 p0v_2_3 p0v_3_3 Ω_5 H locs v_24_0 h_p0 h_p0n h_p0nd h_p0v h_p0b hE hW hS ls hl hR
        rw [f_X8_byteThatGives_L24] at hR
        refine lv_iload hx hb dX8_byteThatGives_24 (lv_at hl 5 rfl) ?_
        refine lv_iload hx hb dX8_byteThatGives_26 (lv_at hl 4 rfl) ?_
        refine lv_icmp_ge (tgt := 84) hx hb dX8_byteThatGives_28 (by decide) (fun c_6 => ?_) (fun c_6 => ?_)
        · rw [if_pos c_6] at hR
          have i_6 := rle c_6
          refine lv_bipush (v := (-9 : Int32)) hx hb dX8_byteThatGives_84 (by decide) ?_
          subst hR
          exact W.iret (v := (-9 : Int32)) hx hb hr (fun t ht hW9 => ⟨⟨(-9 : Int32), Ω_5, rfl, ⟨rfl, h_p0v, hE⟩, by rw [oB, ht]; exact hW⟩, hS.F ht⟩) hS.2.2 dX8_byteThatGives_86
        · rw [if_neg c_6] at hR
          have i_6 := rnle c_6
          refine lv_aload_n hx hb dX8_byteThatGives_31 rfl (lv_at hl 0 rfl) ?_
          refine o_get hx hb hts hown hK hW (inMBO_o h_p0) rfl ig8 6 (by decide) fl_X8_50 rfl dX8_byteThatGives_32 ?_
          refine lv_aload_n hx hb dX8_byteThatGives_35 rfl (lv_at hl 0 rfl) ?_
          refine o_get hx hb hts hown hK hW (inMBO_o h_p0) rfl ig8 2 (by decide) fl_X8_28 rfl dX8_byteThatGives_36 ?_
          refine o_get hx hb hts hown hK hW (inSitO_o h_p0n) rfl ig5 0 (by decide) fl_X8_117 rfl dX8_byteThatGives_39 ?_
          refine o_Vv (rest := []) (As := [.ref (p0 + 19)]) (n := 1) hx hb hml hown hts hK hN hZ hW hS hA (c_X1_copyFrom l G A Ω_5 (p0 + 127) (p0 + 19) p0v_0_3 p0v_1_3 p0v_2_3 p0v_3_3 p0nd_0 p0nd_1 p0nd_2 p0nd_3 (by omega) h_p0v h_p0nd) (inDev_o h_p0v) rfl (good_V ml_X8_235 im_X1_copyFrom se_X1_copyFrom ini_X1 co_X1_copyFrom) (by decide +kernel) ⟨Nat.zero_le _, Nat.zero_le _⟩ hl.1 (Nat.le_of_ble_eq_true rfl) rfl rfl dX8_byteThatGives_42 (fun Ω_7 H locs hp hW hS => ?_)
          obtain ⟨h_p0v, hF_7⟩ := hp
          have h_p0 := h_p0.keep (fun q h1 h2 => hF_7 q (by omega))
          have h_p0n := h_p0n.keep (fun q h1 h2 => hF_7 q (by omega))
          have h_p0nd := h_p0nd.keep (fun q h1 h2 => hF_7 q (by omega))
          have h_p0b := h_p0b.keep (fun q h1 h2 => hF_7 q (by omega))
          have hE : ∀ q : Nat, (q < (p0 + 127) ∨ (p0 + 127) + 5 ≤ q) → Ω_7 q = Ω q := fun q g0 => (hF_7 q (by omega)).trans (hE q g0)
          generalize (f_X1_copyFrom p0v_0_3 p0v_1_3 p0v_2_3 p0v_3_3 p0nd_0 p0nd_1 p0nd_2 p0nd_3) = Z_7 at h_p0v hR
          obtain ⟨z7_0, z7_1, z7_2, z7_3⟩ := Z_7
          dsimp only at h_p0v hR
          rw [f_X8_byteThatGives_C45] at hR
          refine lv_aload_n hx hb dX8_byteThatGives_45 rfl (lv_at hl 0 rfl) ?_
          refine o_get hx hb hts hown hK hW (inMBO_o h_p0) rfl ig8 6 (by decide) fl_X8_50 rfl dX8_byteThatGives_46 ?_
          refine lv_aload_n hx hb dX8_byteThatGives_49 rfl (lv_at hl 0 rfl) ?_
          refine o_get hx hb hts hown hK hW (inMBO_o h_p0) rfl ig8 7 (by decide) fl_X8_57 rfl dX8_byteThatGives_50 ?_
          refine lv_iload_n hx hb dX8_byteThatGives_53 rfl (lv_at hl 1 rfl) ?_
          refine lv_iload hx hb dX8_byteThatGives_54 (lv_at hl 5 rfl) ?_
          refine o_Vv (rest := []) (As := [.ref p0b, .int x1, .int x5_3]) (n := 3) hx hb hml hown hts hK hN hZ hW hS hA (c_X1_write l G A Ω_7 (p0 + 127) p0b z7_0 z7_1 z7_2 z7_3 p0b_0 x1 x5_3 (by omega) hB_p0b h_p0v h_p0b) (inDev_o h_p0v) rfl (good_V ml_X8_238 im_X1_write se_X1_write ini_X1 co_X1_write) (by decide +kernel) ⟨Nat.zero_le _, Nat.zero_le _⟩ hl.1 (Nat.le_of_ble_eq_true rfl) rfl rfl dX8_byteThatGives_56 (fun Ω_8 H locs hp hW hS => ?_)
          obtain ⟨h_p0v, hF_8⟩ := hp
          have h_p0 := h_p0.keep (fun q h1 h2 => hF_8 q (by omega))
          have h_p0n := h_p0n.keep (fun q h1 h2 => hF_8 q (by omega))
          have h_p0nd := h_p0nd.keep (fun q h1 h2 => hF_8 q (by omega))
          have h_p0b := h_p0b.keep (fun q h1 h2 => hF_8 q (by omega))
          have hE : ∀ q : Nat, (q < (p0 + 127) ∨ (p0 + 127) + 5 ≤ q) → Ω_8 q = Ω q := fun q g0 => (hF_8 q (by omega)).trans (hE q g0)
          generalize (f_X1_write z7_0 z7_1 z7_2 z7_3 p0b_0 x1 x5_3) = Z_8 at h_p0v hR
          obtain ⟨z8_0, z8_1, z8_2⟩ := Z_8
          dsimp only at h_p0v hR
          rw [f_X8_byteThatGives_C59] at hR
          refine lv_aload_n hx hb dX8_byteThatGives_59 rfl (lv_at hl 0 rfl) ?_
          refine o_get hx hb hts hown hK hW (inMBO_o h_p0) rfl ig8 6 (by decide) fl_X8_50 rfl dX8_byteThatGives_60 ?_
          refine lv_aload_n hx hb dX8_byteThatGives_63 rfl (lv_at hl 0 rfl) ?_
          refine o_get hx hb hts hown hK hW (inMBO_o h_p0) rfl ig8 7 (by decide) fl_X8_57 rfl dX8_byteThatGives_64 ?_
          refine lv_iload_n hx hb dX8_byteThatGives_67 rfl (lv_at hl 2 rfl) ?_
          refine o_ViR (rest := []) (As := [.ref p0b, .int x2]) (n := 2) hx hb hml hown hts hK hN hZ hW hS hA (c_X1_valueOf l G A Ω_8 (p0 + 127) p0b z8_0 z8_1 z8_2 z7_3 p0b_0 x2 hB_p0b (by omega) h_p0v h_p0b) (inDev_o h_p0v) rfl (good_V ml_X8_120 im_X1_valueOf se_X1_valueOf ini_X1 co_X1_valueOf) (by decide +kernel) ⟨Nat.zero_le _, Nat.zero_le _⟩ hl.1 (Nat.le_of_ble_eq_true rfl) rfl rfl dX8_byteThatGives_68 (fun r H locs hp hW hS => ?_)
          subst hp
          refine lv_iload_n hx hb dX8_byteThatGives_71 rfl (lv_at hl 3 rfl) ?_
          refine lv_icmp_ne (tgt := 78) hx hb dX8_byteThatGives_72 (by decide) (fun c_10 => ?_) (fun c_10 => ?_)
          · rw [if_neg c_10] at hR
            have i_10 := rne c_10
            refine lv_iinc (v := (x5_3 + (1 : Int32))) (lv' := [(5, .int (x5_3 + (1 : Int32))), (0, .ref p0), (1, .int x1), (2, .int x2), (3, .int x3), (4, .int s0_2)]) hx hb dX8_byteThatGives_78 hl (k := 5) rfl rfl (by decide) rfl (fun ls hl => ?_)
            refine lv_goto (tgt := 24) hx hb dX8_byteThatGives_81 (by decide) ?_
            have j_11 : (1 : Int32).toInt = 1 := by decide
            try have j_12 : (x5_3 + (1 : Int32)).toInt = x5_3.toInt + (1 : Int32).toInt := fb_addI (by omega) (by omega)
            exact ih24 (x5_3 + (1 : Int32)) z8_0 z8_1 z8_2 z7_3 Ω_8 H locs (by omega) h_p0 h_p0n h_p0nd h_p0v h_p0b hE hW hS ls (lv_sub hl [1, 2, 3, 4, 5, 0] rfl) hR
          · rw [if_pos c_10] at hR
            have i_10 := congrArg Int32.toInt c_10
            refine lv_iload hx hb dX8_byteThatGives_75 (lv_at hl 5 rfl) ?_
            subst hR
            exact W.iret (v := x5_3) hx hb hr (fun t ht hW9 => ⟨⟨x5_3, Ω_8, rfl, ⟨rfl, h_p0v, hE⟩, by rw [oB, ht]; exact hW⟩, hS.F ht⟩) hS.2.2 dX8_byteThatGives_77
    have j_13 : (0 : Int32).toInt = 0 := by decide
    exact L24 4000 (0 : Int32) p0v_0 p0v_1 p0v_2 p0v_3 Ω H locs (by omega) h_p0 h_p0n h_p0nd h_p0v h_p0b hE hW hS ls (lv_sub hl [2, 3, 4, 5, 1, 0] rfl) hR
  have j_15 : (0 : Int32).toInt = 0 := by decide
  refine lv_if_eq (tgt := 18) hx hb dX8_byteThatGives_9 (by decide) (fun c_14 => ?_) (fun c_14 => ?_)
  · rw [if_pos c_14] at hR
    have i_14 := congrArg Int32.toInt c_14
    refine lv_iconst (v := (1 : Int32)) hx hb dX8_byteThatGives_18 (by decide) ?_
    have j_16 : (1 : Int32).toInt = 1 := by decide
    exact J19 (1 : Int32) H locs (by omega) hW hS ls (lv_sub hl [0, 1, 2, 3] rfl) hR
  · rw [if_neg c_14] at hR
    have i_14 := rne c_14
    refine lv_sipush (v := (256 : Int32)) hx hb dX8_byteThatGives_12 (by decide) ?_
    refine lv_goto (tgt := 19) hx hb dX8_byteThatGives_15 (by decide) ?_
    have j_17 : (256 : Int32).toInt = 256 := by decide
    exact J19 (256 : Int32) H locs (by omega) hW hS ls (lv_sub hl [0, 1, 2, 3] rfl) hR
set_option maxHeartbeats 4000000 in
set_option maxRecDepth 100000 in
theorem c_X8_way (l : Launch) (G : Gm) (A : Nat → Prop) (Ω : Om) (p0 : Nat) (p0b : Nat) (p0pb : Nat) (p0n_0 : Int32) (p0n_1 : Int32) (p0nd_0 : Fn) (p0nd_1 : Fn) (p0nd_2 : Fn) (p0nd_3 : Fn) (p0v_0 : Fn) (p0v_1 : Fn) (p0v_2 : Fn) (p0v_3 : Fn) (p0b_0 : Blk) (x1 : Int32) (x2 : Int32) (hbo : (p0b = p0 + 4 ∧ p0pb = p0 + 132) ∨ (p0b = p0 + 132 ∧ p0pb = p0 + 4)) (hB_p0b : BlkInv p0b_0) (h_p0 : inMBO G Ω p0 p0b) (h_p0n : inSitO G Ω (p0 + 18) p0n_0 p0n_1) (h_p0nd : inDev G Ω (p0 + 19) p0nd_0 p0nd_1 p0nd_2 p0nd_3) (h_p0v : inDev G Ω (p0 + 127) p0v_0 p0v_1 p0v_2 p0v_3) (h_p0b : inBlk G Ω p0b p0b_0) : Met l yX8_way (wz yX8_way cX8_way 5 (some .int)) ({ frames := 5, cells := 0, slots := 0, locals := 122 } : Room) (va_Pc [.ref p0, .int x1, .int x2] (oS G A Ω)) (va_Qi (fun (r : Int32) (Ω1 : Om) => r = (f_X8_way p0nd_0 p0nd_1 p0nd_2 p0nd_3 p0v_0 p0v_1 p0v_2 p0v_3 p0b_0 x1 x2).1 ∧ inDev G Ω1 (p0 + 127) ((f_X8_way p0nd_0 p0nd_1 p0nd_2 p0nd_3 p0v_0 p0v_1 p0v_2 p0v_3 p0b_0 x1 x2).2.1) ((f_X8_way p0nd_0 p0nd_1 p0nd_2 p0nd_3 p0v_0 p0v_1 p0v_2 p0v_3 p0b_0 x1 x2).2.2.1) ((f_X8_way p0nd_0 p0nd_1 p0nd_2 p0nd_3 p0v_0 p0v_1 p0v_2 p0v_3 p0b_0 x1 x2).2.2.2.1) ((f_X8_way p0nd_0 p0nd_1 p0nd_2 p0nd_3 p0v_0 p0v_1 p0v_2 p0v_3 p0b_0 x1 x2).2.2.2.2) ∧ (∀ q : Nat, (q < (p0 + 127) ∨ (p0 + 127) + 5 ≤ q) → Ω1 q = Ω q)) (oB G A) A) 0 0 A := by
  refine Met.ofW (cc := cX8_way) (maxL := 5) (ret := (some .int)) (by decide) rfl ?_
  intro p e s m args below meth c s₁ B hml hv
  obtain ⟨rfl, hW, hK, hN, hZ⟩ := hv
  have hx := B.exec
  have hb := B.bytes
  have hr := B.returns
  have hts : ∀ w ∈ gt, w.before _ s = true := fun w hw => atoms_spec (ws := wz yX8_way cX8_way 5 (some .int)) B.pre w (List.mem_cons_of_mem _ hw)
  have hown : s.vm.findClass RX8 = some m.cls := findClass_of_methodNamed B.named
  have hlocks := B.notSynchronized
  have hA : ∀ q, A q → A q := fun _ h => h
  have hS : va_S A s.heap s.heap [] := va_S.rf
  have hS0 := hS
  have hl := lv_entry ([.ref p0, .int x1, .int x2]) (n := 5) (Nat.le_of_ble_eq_true rfl)
  rw [lg_entry_eq]
  generalize (lg_sl ([.ref p0, .int x1, .int x2]) ++ List.replicate (5 - (lg_sl ([.ref p0, .int x1, .int x2])).length) Slot.unset).toArray = ls at hl ⊢
  have hl : lv_has ls 5 [(0, .ref p0), (1, .int x1), (2, .int x2)] := hl
  have hE : ∀ q : Nat, (q < (p0 + 127) ∨ (p0 + 127) + 5 ≤ q) → Ω q = Ω q := by intros; rfl
  generalize hR : (f_X8_way p0nd_0 p0nd_1 p0nd_2 p0nd_3 p0v_0 p0v_1 p0v_2 p0v_3 p0b_0 x1 x2) = R
  rw [f_X8_way] at hR
  refine lv_aload_n hx hb dX8_way_0 rfl (lv_at hl 0 rfl) ?_
  refine o_get hx hb hts hown hK hW (inMBO_o h_p0) rfl ig8 7 (by decide) fl_X8_57 rfl dX8_way_1 ?_
  refine lv_iload_n hx hb dX8_way_4 rfl (lv_at hl 1 rfl) ?_
  refine lv_iload_n hx hb dX8_way_5 rfl (lv_at hl 2 rfl) ?_
  refine o_ViR (rest := []) (As := [.int x1, .int x2]) (n := 2) hx hb hml hown hts hK hN hZ hW hS hA (c_X0_canHold l G A Ω p0b p0b_0 x1 x2 hB_p0b h_p0b) (inBlk_o h_p0b) rfl (good_V ml_X8_114 im_X0_canHold se_X0_canHold ini_X0 co_X0_canHold) (by decide +kernel) ⟨Nat.zero_le _, Nat.zero_le _⟩ hl.1 (Nat.le_of_ble_eq_true rfl) rfl rfl dX8_way_6 (fun r H locs hp hW hS => ?_)
  obtain ⟨rfl, hz_1⟩ := hp
  have j_3 : (0 : Int32).toInt = 0 := by decide
  refine lv_if_ne (tgt := 14) hx hb dX8_way_9 (by decide) (fun c_2 => ?_) (fun c_2 => ?_)
  · rw [if_neg c_2] at hR
    have i_2 := rne c_2
    have b_c_2 := rCH c_2
    have bb_c_2 := BI_flds hB_p0b
    refine lv_iconst (v := (0 : Int32)) hx hb dX8_way_14 (by decide) ?_
    refine lv_istore_n (lv' := [(3, .int (0 : Int32)), (0, .ref p0), (1, .int x1), (2, .int x2)]) hx hb dX8_way_15 rfl hl (by decide) rfl (fun ls hl => ?_)
    have L16 : ∀ (n_5 : Nat) (x3_4 : Int32) (p0v_0_4 : Fn) (p0v_1_4 : Fn) (p0v_2_4 : Fn) (p0v_3_4 : Fn) (Ω_6 : Om) (H : Heap) (locs : List Loc), (0 ≤ x3_4.toInt ∧ x3_4.toInt ≤ 16 ∧ 16 - x3_4.toInt < n_5) → inMBO G Ω_6 p0 p0b → inSitO G Ω_6 (p0 + 18) p0n_0 p0n_1 → inDev G Ω_6 (p0 + 19) p0nd_0 p0nd_1 p0nd_2 p0nd_3 → inDev G Ω_6 (p0 + 127) p0v_0_4 p0v_1_4 p0v_2_4 p0v_3_4 → inBlk G Ω_6 p0b p0b_0 → (∀ q : Nat, (q < (p0 + 127) ∨ (p0 + 127) + 5 ≤ q) → Ω_6 q = Ω q) → oW G A Ω_6 H → va_S A s.heap H locs → ∀ ls : Array Slot, lv_has ls 5 [(0, .ref p0), (1, .int x1), (2, .int x2), (3, .int x3_4)] → (f_X8_way_L16 p0nd_0 p0nd_1 p0nd_2 p0nd_3 p0b_0 x1 x2 n_5 x3_4 p0v_0_4 p0v_1_4 p0v_2_4 p0v_3_4) = R → W p l e (headSpec (wz yX8_way cX8_way 5 (some .int)) ({ frames := 5, cells := 0, slots := 0, locals := 122 } : Room)).room s m ([.ref p0, .int x1, .int x2] : List Value).toArray below meth c H locs 0 0 (MQ below (va_Qi (fun (r : Int32) (Ω1 : Om) => r = R.1 ∧ inDev G Ω1 (p0 + 127) (R.2.1) (R.2.2.1) (R.2.2.2.1) (R.2.2.2.2) ∧ (∀ q : Nat, (q < (p0 + 127) ∨ (p0 + 127) + 5 ≤ q) → Ω1 q = Ω q)) (oB G A) A) ([.ref p0, .int x1, .int x2] : List Value).toArray s 0 0 A) (F0 m 16 ls []) := by
      intro n_5
      induction n_5 with
      | zero =>
        intro x3_4 p0v_0_4 p0v_1_4 p0v_2_4 p0v_3_4 Ω_6 H locs v_16_0 h_p0 h_p0n h_p0nd h_p0v h_p0b hE hW hS ls hl hR
        exfalso
        omega
      | succ n_5 ih16 =>
        intro x3_4 p0v_0_4 p0v_1_4 p0v_2_4 p0v_3_4 Ω_6 H locs v_16_0 h_p0 h_p0n h_p0nd h_p0v h_p0b hE hW hS ls hl hR
        rw [f_X8_way_L16] at hR
        refine lv_iload_n hx hb dX8_way_16 rfl (lv_at hl 3 rfl) ?_
        refine lv_bipush (v := (16 : Int32)) hx hb dX8_way_17 (by decide) ?_
        have j_8 : (16 : Int32).toInt = 16 := by decide
        refine lv_icmp_ge (tgt := 53) hx hb dX8_way_19 (by decide) (fun c_7 => ?_) (fun c_7 => ?_)
        · rw [if_pos c_7] at hR
          have i_7 := rle c_7
          refine lv_bipush (v := (-9 : Int32)) hx hb dX8_way_53 (by decide) ?_
          subst hR
          exact W.iret (v := (-9 : Int32)) hx hb hr (fun t ht hW9 => ⟨⟨(-9 : Int32), Ω_6, rfl, ⟨rfl, h_p0v, hE⟩, by rw [oB, ht]; exact hW⟩, hS.F ht⟩) hS.2.2 dX8_way_55
        · rw [if_neg c_7] at hR
          have i_7 := rnle c_7
          refine lv_aload_n hx hb dX8_way_22 rfl (lv_at hl 0 rfl) ?_
          refine lv_iload_n hx hb dX8_way_23 rfl (lv_at hl 3 rfl) ?_
          refine lv_iload_n hx hb dX8_way_24 rfl (lv_at hl 1 rfl) ?_
          refine lv_iload_n hx hb dX8_way_25 rfl (lv_at hl 2 rfl) ?_
          refine o_Vi (rest := []) (As := [.int x3_4, .int x1, .int x2]) (n := 3) hx hb hml hown hts hK hN hZ hW hS hA (c_X8_byteThatGives l G A Ω_6 p0 p0b p0pb p0n_0 p0n_1 p0nd_0 p0nd_1 p0nd_2 p0nd_3 p0v_0_4 p0v_1_4 p0v_2_4 p0v_3_4 p0b_0 x3_4 x1 x2 hbo hB_p0b (by omega) h_p0 h_p0n h_p0nd h_p0v h_p0b) (inMBO_o h_p0) rfl (good_V ml_X8_215 im_X8_byteThatGives se_X8_byteThatGives ini_X8 co_X8_byteThatGives) (by decide +kernel) ⟨Nat.zero_le _, Nat.zero_le _⟩ hl.1 (Nat.le_of_ble_eq_true rfl) rfl rfl dX8_way_26 (fun r Ω_9 H locs hp hW hS => ?_)
          obtain ⟨rfl, h_p0v, hF_9⟩ := hp
          have h_p0 := h_p0.keep (fun q h1 h2 => hF_9 q (by omega))
          have h_p0n := h_p0n.keep (fun q h1 h2 => hF_9 q (by omega))
          have h_p0nd := h_p0nd.keep (fun q h1 h2 => hF_9 q (by omega))
          have h_p0b := h_p0b.keep (fun q h1 h2 => hF_9 q (by omega))
          have hE : ∀ q : Nat, (q < (p0 + 127) ∨ (p0 + 127) + 5 ≤ q) → Ω_9 q = Ω q := fun q g0 => (hF_9 q (by omega)).trans (hE q g0)
          generalize (f_X8_byteThatGives p0nd_0 p0nd_1 p0nd_2 p0nd_3 p0v_0_4 p0v_1_4 p0v_2_4 p0v_3_4 p0b_0 x3_4 x1 x2) = Z_9 at h_p0v hR ⊢
          obtain ⟨z9_0, z9_1, z9_2, z9_3, z9_4⟩ := Z_9
          dsimp only at h_p0v hR ⊢
          rw [f_X8_way_C29] at hR
          refine lv_istore (lv' := [(4, .int z9_0), (0, .ref p0), (1, .int x1), (2, .int x2), (3, .int x3_4)]) hx hb dX8_way_29 hl (by decide) rfl (fun ls hl => ?_)
          refine lv_iload hx hb dX8_way_31 (lv_at hl 0 rfl) ?_
          refine lv_bipush (v := (-9 : Int32)) hx hb dX8_way_33 (by decide) ?_
          have j_11 : (-9 : Int32).toInt = -9 := by decide
          refine lv_icmp_eq (tgt := 47) hx hb dX8_way_35 (by decide) (fun c_10 => ?_) (fun c_10 => ?_)
          · rw [if_pos c_10] at hR
            have i_10 := congrArg Int32.toInt c_10
            refine lv_iinc (v := (x3_4 + (1 : Int32))) (lv' := [(3, .int (x3_4 + (1 : Int32))), (4, .int z9_0), (0, .ref p0), (1, .int x1), (2, .int x2)]) hx hb dX8_way_47 hl (k := 4) rfl rfl (by decide) rfl (fun ls hl => ?_)
            refine lv_goto (tgt := 16) hx hb dX8_way_50 (by decide) ?_
            have j_12 : (1 : Int32).toInt = 1 := by decide
            try have j_13 : (x3_4 + (1 : Int32)).toInt = x3_4.toInt + (1 : Int32).toInt := fb_addI (by omega) (by omega)
            exact ih16 (x3_4 + (1 : Int32)) z9_1 z9_2 z9_3 z9_4 Ω_9 H locs (by omega) h_p0 h_p0n h_p0nd h_p0v h_p0b hE hW hS ls (lv_sub hl [2, 3, 4, 0] rfl) hR
          · rw [if_neg c_10] at hR
            have i_10 := rne c_10
            refine lv_sipush (v := (256 : Int32)) hx hb dX8_way_38 (by decide) ?_
            refine lv_iload_n hx hb dX8_way_41 rfl (lv_at hl 4 rfl) ?_
            refine lv_imul hx hb dX8_way_42 ?_
            refine lv_iload hx hb dX8_way_43 (lv_at hl 0 rfl) ?_
            refine lv_iadd hx hb dX8_way_45 ?_
            subst hR
            exact W.iret (v := (((256 : Int32) * x3_4) + z9_0)) hx hb hr (fun t ht hW9 => ⟨⟨(((256 : Int32) * x3_4) + z9_0), Ω_9, rfl, ⟨rfl, h_p0v, hE⟩, by rw [oB, ht]; exact hW⟩, hS.F ht⟩) hS.2.2 dX8_way_46
    exact L16 4000 (0 : Int32) p0v_0 p0v_1 p0v_2 p0v_3 Ω H locs (by omega) h_p0 h_p0n h_p0nd h_p0v h_p0b hE hW hS ls (lv_sub hl [1, 2, 3, 0] rfl) hR
  · rw [if_pos c_2] at hR
    have i_2 := congrArg Int32.toInt c_2
    refine lv_iconst (v := (-1 : Int32)) hx hb dX8_way_12 (by decide) ?_
    subst hR
    exact W.iret (v := (-1 : Int32)) hx hb hr (fun t ht hW9 => ⟨⟨(-1 : Int32), Ω, rfl, ⟨rfl, h_p0v, hE⟩, by rw [oB, ht]; exact hW⟩, hS.F ht⟩) hS.2.2 dX8_way_13
set_option maxHeartbeats 4000000 in
set_option maxRecDepth 100000 in
theorem c_X8_walkedBits (l : Launch) (G : Gm) (A : Nat → Prop) (Ω : Om) (p0 : Nat) (p0b : Nat) (p0pb : Nat) (p0n_0 : Int32) (p0n_1 : Int32) (p0nm_0 : Fn) (p0nm_1 : Fn) (p0nm_2 : Fn) (p0nm_3 : Fn) (p0b_0 : Blk) (x1 : Int32) (hbo : (p0b = p0 + 4 ∧ p0pb = p0 + 132) ∨ (p0b = p0 + 132 ∧ p0pb = p0 + 4)) (hB_p0b : BlkInv p0b_0) (hi_x1 : 0 ≤ x1.toInt ∧ x1.toInt < 6) (h_p0 : inMBO G Ω p0 p0b) (h_p0n : inSitO G Ω (p0 + 18) p0n_0 p0n_1) (h_p0nm : inDev G Ω (p0 + 24) p0nm_0 p0nm_1 p0nm_2 p0nm_3) (h_p0b : inBlk G Ω p0b p0b_0) : Met l yX8_walkedBits (wz yX8_walkedBits cX8_walkedBits 5 (some .int)) ({ frames := 2, cells := 0, slots := 0, locals := 45 } : Room) (va_Pc [.ref p0, .int x1] (oS G A Ω)) (va_Qi (fun (r : Int32) (Ω1 : Om) => r = (f_X8_walkedBits p0nm_0 p0b_0 x1) ∧ Ω1 = Ω) (oB G A) A) 0 0 A := by
  refine Met.ofW (cc := cX8_walkedBits) (maxL := 5) (ret := (some .int)) (by decide) rfl ?_
  intro p e s m args below meth c s₁ B hml hv
  obtain ⟨rfl, hW, hK, hN, hZ⟩ := hv
  have hx := B.exec
  have hb := B.bytes
  have hr := B.returns
  have hts : ∀ w ∈ gt, w.before _ s = true := fun w hw => atoms_spec (ws := wz yX8_walkedBits cX8_walkedBits 5 (some .int)) B.pre w (List.mem_cons_of_mem _ hw)
  have hown : s.vm.findClass RX8 = some m.cls := findClass_of_methodNamed B.named
  have hlocks := B.notSynchronized
  have hA : ∀ q, A q → A q := fun _ h => h
  have hS : va_S A s.heap s.heap [] := va_S.rf
  have hS0 := hS
  have hl := lv_entry ([.ref p0, .int x1]) (n := 5) (Nat.le_of_ble_eq_true rfl)
  rw [lg_entry_eq]
  generalize (lg_sl ([.ref p0, .int x1]) ++ List.replicate (5 - (lg_sl ([.ref p0, .int x1])).length) Slot.unset).toArray = ls at hl ⊢
  have hl : lv_has ls 5 [(0, .ref p0), (1, .int x1)] := hl
  generalize hR : (f_X8_walkedBits p0nm_0 p0b_0 x1) = R
  rw [f_X8_walkedBits] at hR
  refine lv_aload_n hx hb dX8_walkedBits_0 rfl (lv_at hl 0 rfl) ?_
  refine o_get hx hb hts hown hK hW (inMBO_o h_p0) rfl ig8 7 (by decide) fl_X8_57 rfl dX8_walkedBits_1 ?_
  refine lv_aload_n hx hb dX8_walkedBits_4 rfl (lv_at hl 0 rfl) ?_
  refine o_get hx hb hts hown hK hW (inMBO_o h_p0) rfl ig8 7 (by decide) fl_X8_57 rfl dX8_walkedBits_5 ?_
  refine o_get hx hb hts hown hK hW (inBlk_o h_p0b) rfl ig0 3 (by decide) fl_X8_158 rfl dX8_walkedBits_8 ?_
  refine lv_iload_n hx hb dX8_walkedBits_11 rfl (lv_at hl 1 rfl) ?_
  refine o_iald hx hb hK hW (inBlk_a0 h_p0b) (vp_in_iff.mpr ⟨by omega, by omega⟩) dX8_walkedBits_12 ?_
  refine o_ViR (rest := []) (As := [.int ((p0b_0 1) x1.toNatClampNeg)]) (n := 1) hx hb hml hown hts hK hN hZ hW hS hA (c_X0_registerAt l G A Ω p0b p0b_0 ((p0b_0 1) x1.toNatClampNeg) hB_p0b h_p0b) (inBlk_o h_p0b) rfl (good_V ml_X8_190 im_X0_registerAt se_X0_registerAt ini_X0 co_X0_registerAt) (by decide +kernel) ⟨Nat.zero_le _, Nat.zero_le _⟩ hl.1 (Nat.le_of_ble_eq_true rfl) rfl rfl dX8_walkedBits_13 (fun r H locs hp hW hS => ?_)
  subst hp
  refine lv_iload_n hx hb dX8_walkedBits_16 rfl (lv_at hl 1 rfl) ?_
  try have j_3 : (f_X0_registerAt p0b_0 ((p0b_0 1) x1.toNatClampNeg)).toInt = -9 ∨ (0 ≤ (f_X0_registerAt p0b_0 ((p0b_0 1) x1.toNatClampNeg)).toInt ∧ (f_X0_registerAt p0b_0 ((p0b_0 1) x1.toNatClampNeg)).toInt < 6) := R_registerAt hB_p0b _
  refine lv_icmp_ne (tgt := 52) hx hb dX8_walkedBits_17 (by decide) (fun c_2 => ?_) (fun c_2 => ?_)
  · rw [if_neg c_2] at hR
    have i_2 := rne c_2
    refine lv_iconst (v := (0 : Int32)) hx hb dX8_walkedBits_52 (by decide) ?_
    subst hR
    exact W.iret (v := (0 : Int32)) hx hb hr (fun t ht hW9 => ⟨⟨(0 : Int32), Ω, rfl, ⟨rfl, rfl⟩, by rw [oB, ht]; exact hW⟩, hS.F ht⟩) hS.2.2 dX8_walkedBits_53
  · rw [if_pos c_2] at hR
    have i_2 := congrArg Int32.toInt c_2
    refine lv_aload_n hx hb dX8_walkedBits_20 rfl (lv_at hl 0 rfl) ?_
    refine o_get hx hb hts hown hK hW (inMBO_o h_p0) rfl ig8 7 (by decide) fl_X8_57 rfl dX8_walkedBits_21 ?_
    refine o_get hx hb hts hown hK hW (inBlk_o h_p0b) rfl ig0 5 (by decide) fl_X8_164 rfl dX8_walkedBits_24 ?_
    refine lv_iload_n hx hb dX8_walkedBits_27 rfl (lv_at hl 1 rfl) ?_
    refine o_iald hx hb hK hW (inBlk_a2 h_p0b) (vp_in_iff.mpr ⟨by omega, by omega⟩) dX8_walkedBits_28 ?_
    refine lv_bipush (v := (-9 : Int32)) hx hb dX8_walkedBits_29 (by decide) ?_
    have j_5 : (-9 : Int32).toInt = -9 := by decide
    refine lv_icmp_ne (tgt := 52) hx hb dX8_walkedBits_31 (by decide) (fun c_4 => ?_) (fun c_4 => ?_)
    · rw [if_neg c_4] at hR
      have i_4 := rne c_4
      refine lv_iconst (v := (0 : Int32)) hx hb dX8_walkedBits_52 (by decide) ?_
      subst hR
      exact W.iret (v := (0 : Int32)) hx hb hr (fun t ht hW9 => ⟨⟨(0 : Int32), Ω, rfl, ⟨rfl, rfl⟩, by rw [oB, ht]; exact hW⟩, hS.F ht⟩) hS.2.2 dX8_walkedBits_53
    · rw [if_pos c_4] at hR
      have i_4 := congrArg Int32.toInt c_4
      refine lv_aload_n hx hb dX8_walkedBits_34 rfl (lv_at hl 0 rfl) ?_
      refine o_get hx hb hts hown hK hW (inMBO_o h_p0) rfl ig8 2 (by decide) fl_X8_28 rfl dX8_walkedBits_35 ?_
      refine o_get hx hb hts hown hK hW (inSitO_o h_p0n) rfl ig5 1 (by decide) fl_X8_152 rfl dX8_walkedBits_38 ?_
      refine lv_aload_n hx hb dX8_walkedBits_41 rfl (lv_at hl 0 rfl) ?_
      refine o_get hx hb hts hown hK hW (inMBO_o h_p0) rfl ig8 7 (by decide) fl_X8_57 rfl dX8_walkedBits_42 ?_
      refine lv_iload_n hx hb dX8_walkedBits_45 rfl (lv_at hl 1 rfl) ?_
      refine o_ViR (rest := []) (As := [.ref p0b, .int x1]) (n := 2) hx hb hml hown hts hK hN hZ hW hS hA (c_X1_isLocked l G A Ω (p0 + 24) p0b p0nm_0 p0nm_1 p0nm_2 p0nm_3 p0b_0 x1 hB_p0b (by omega) h_p0nm h_p0b) (inDev_o h_p0nm) rfl (good_V ml_X8_167 im_X1_isLocked se_X1_isLocked ini_X1 co_X1_isLocked) (by decide +kernel) ⟨Nat.zero_le _, Nat.zero_le _⟩ hl.1 (Nat.le_of_ble_eq_true rfl) rfl rfl dX8_walkedBits_46 (fun r H locs hp hW hS => ?_)
      obtain ⟨rfl, hz_6⟩ := hp
      have j_8 : (0 : Int32).toInt = 0 := by decide
      refine lv_if_eq (tgt := 54) hx hb dX8_walkedBits_49 (by decide) (fun c_7 => ?_) (fun c_7 => ?_)
      · rw [if_pos c_7] at hR
        have i_7 := congrArg Int32.toInt c_7
        refine lv_iconst (v := (0 : Int32)) hx hb dX8_walkedBits_54 (by decide) ?_
        refine lv_istore_n (lv' := [(2, .int (0 : Int32)), (0, .ref p0), (1, .int x1)]) hx hb dX8_walkedBits_55 rfl hl (by decide) rfl (fun ls hl => ?_)
        refine lv_iconst (v := (0 : Int32)) hx hb dX8_walkedBits_56 (by decide) ?_
        refine lv_istore_n (lv' := [(3, .int (0 : Int32)), (2, .int (0 : Int32)), (0, .ref p0), (1, .int x1)]) hx hb dX8_walkedBits_57 rfl hl (by decide) rfl (fun ls hl => ?_)
        have L58 : ∀ (n_10 : Nat) (x2_9 : Int32) (x3_9 : Int32) (H : Heap) (locs : List Loc), (0 ≤ x3_9.toInt ∧ x3_9.toInt ≤ 12 ∧ 12 - x3_9.toInt < n_10) → oW G A Ω H → va_S A s.heap H locs → ∀ ls : Array Slot, lv_has ls 5 [(0, .ref p0), (1, .int x1), (2, .int x2_9), (3, .int x3_9)] → (f_X8_walkedBits_L58 p0b_0 x1 n_10 x2_9 x3_9) = R → W p l e (headSpec (wz yX8_walkedBits cX8_walkedBits 5 (some .int)) ({ frames := 2, cells := 0, slots := 0, locals := 45 } : Room)).room s m ([.ref p0, .int x1] : List Value).toArray below meth c H locs 0 0 (MQ below (va_Qi (fun (r : Int32) (Ω1 : Om) => r = R ∧ Ω1 = Ω) (oB G A) A) ([.ref p0, .int x1] : List Value).toArray s 0 0 A) (F0 m 58 ls []) := by
          intro n_10
          induction n_10 with
          | zero =>
            intro x2_9 x3_9 H locs v_58_0 hW hS ls hl hR
            exfalso
            omega
          | succ n_10 ih58 =>
            intro x2_9 x3_9 H locs v_58_0 hW hS ls hl hR
            rw [f_X8_walkedBits_L58] at hR
            refine lv_iload_n hx hb dX8_walkedBits_58 rfl (lv_at hl 3 rfl) ?_
            refine lv_aload_n hx hb dX8_walkedBits_59 rfl (lv_at hl 0 rfl) ?_
            refine o_get hx hb hts hown hK hW (inMBO_o h_p0) rfl ig8 7 (by decide) fl_X8_57 rfl dX8_walkedBits_60 ?_
            refine o_get hx hb hts hown hK hW (inBlk_o h_p0b) rfl ig0 1 (by decide) fl_X8_126 rfl dX8_walkedBits_63 ?_
            try have j_12 : 0 ≤ (p0b_0 0 1).toInt ∧ (p0b_0 0 1).toInt ≤ 12 := BI_flds (by assumption)
            refine lv_icmp_ge (tgt := 163) hx hb dX8_walkedBits_66 (by decide) (fun c_11 => ?_) (fun c_11 => ?_)
            · rw [if_pos c_11] at hR
              have i_11 := rle c_11
              refine lv_iload_n hx hb dX8_walkedBits_163 rfl (lv_at hl 2 rfl) ?_
              subst hR
              exact W.iret (v := x2_9) hx hb hr (fun t ht hW9 => ⟨⟨x2_9, Ω, rfl, ⟨rfl, rfl⟩, by rw [oB, ht]; exact hW⟩, hS.F ht⟩) hS.2.2 dX8_walkedBits_164
            · rw [if_neg c_11] at hR
              have i_11 := rnle c_11
              refine lv_aload_n hx hb dX8_walkedBits_69 rfl (lv_at hl 0 rfl) ?_
              refine o_get hx hb hts hown hK hW (inMBO_o h_p0) rfl ig8 7 (by decide) fl_X8_57 rfl dX8_walkedBits_70 ?_
              refine o_get hx hb hts hown hK hW (inBlk_o h_p0b) rfl ig0 6 (by decide) fl_X8_137 rfl dX8_walkedBits_73 ?_
              refine lv_iload_n hx hb dX8_walkedBits_76 rfl (lv_at hl 3 rfl) ?_
              refine o_iald hx hb hK hW (inBlk_a3 h_p0b) (vp_in_iff.mpr ⟨by omega, by omega⟩) dX8_walkedBits_77 ?_
              refine lv_iload_n hx hb dX8_walkedBits_78 rfl (lv_at hl 1 rfl) ?_
              try have j_14 : 0 ≤ ((p0b_0 4) x3_9.toNatClampNeg).toInt ∧ ((p0b_0 4) x3_9.toNatClampNeg).toInt < 6 := BI_owner hB_p0b _
              refine lv_icmp_eq (tgt := 85) hx hb dX8_walkedBits_79 (by decide) (fun c_13 => ?_) (fun c_13 => ?_)
              · rw [if_pos c_13] at hR
                have i_13 := congrArg Int32.toInt c_13
                refine lv_aload_n hx hb dX8_walkedBits_85 rfl (lv_at hl 0 rfl) ?_
                refine o_get hx hb hts hown hK hW (inMBO_o h_p0) rfl ig8 7 (by decide) fl_X8_57 rfl dX8_walkedBits_86 ?_
                refine o_get hx hb hts hown hK hW (inBlk_o h_p0b) rfl ig0 7 (by decide) fl_X8_146 rfl dX8_walkedBits_89 ?_
                refine lv_iload_n hx hb dX8_walkedBits_92 rfl (lv_at hl 3 rfl) ?_
                refine o_iald hx hb hK hW (inBlk_a4 h_p0b) (vp_in_iff.mpr ⟨by omega, by omega⟩) dX8_walkedBits_93 ?_
                refine lv_istore (lv' := [(4, .int ((p0b_0 5) x3_9.toNatClampNeg)), (0, .ref p0), (1, .int x1), (2, .int x2_9), (3, .int x3_9)]) hx hb dX8_walkedBits_94 hl (by decide) rfl (fun ls hl => ?_)
                refine lv_iload hx hb dX8_walkedBits_96 (lv_at hl 0 rfl) ?_
                refine lv_iconst (v := (2 : Int32)) hx hb dX8_walkedBits_98 (by decide) ?_
                have j_16 : (2 : Int32).toInt = 2 := by decide
                refine lv_icmp_eq (tgt := 127) hx hb dX8_walkedBits_99 (by decide) (fun c_15 => ?_) (fun c_15 => ?_)
                · rw [if_pos c_15] at hR
                  have i_15 := congrArg Int32.toInt c_15
                  refine lv_iconst (v := (0 : Int32)) hx hb dX8_walkedBits_127 (by decide) ?_
                  subst hR
                  exact W.iret (v := (0 : Int32)) hx hb hr (fun t ht hW9 => ⟨⟨(0 : Int32), Ω, rfl, ⟨rfl, rfl⟩, by rw [oB, ht]; exact hW⟩, hS.F ht⟩) hS.2.2 dX8_walkedBits_128
                · rw [if_neg c_15] at hR
                  have i_15 := rne c_15
                  refine lv_iload hx hb dX8_walkedBits_102 (lv_at hl 0 rfl) ?_
                  refine lv_bipush (v := (6 : Int32)) hx hb dX8_walkedBits_104 (by decide) ?_
                  have j_18 : (6 : Int32).toInt = 6 := by decide
                  refine lv_icmp_eq (tgt := 127) hx hb dX8_walkedBits_106 (by decide) (fun c_17 => ?_) (fun c_17 => ?_)
                  · rw [if_pos c_17] at hR
                    have i_17 := congrArg Int32.toInt c_17
                    refine lv_iconst (v := (0 : Int32)) hx hb dX8_walkedBits_127 (by decide) ?_
                    subst hR
                    exact W.iret (v := (0 : Int32)) hx hb hr (fun t ht hW9 => ⟨⟨(0 : Int32), Ω, rfl, ⟨rfl, rfl⟩, by rw [oB, ht]; exact hW⟩, hS.F ht⟩) hS.2.2 dX8_walkedBits_128
                  · rw [if_neg c_17] at hR
                    have i_17 := rne c_17
                    refine lv_iload hx hb dX8_walkedBits_109 (lv_at hl 0 rfl) ?_
                    refine lv_bipush (v := (7 : Int32)) hx hb dX8_walkedBits_111 (by decide) ?_
                    have j_20 : (7 : Int32).toInt = 7 := by decide
                    refine lv_icmp_eq (tgt := 127) hx hb dX8_walkedBits_113 (by decide) (fun c_19 => ?_) (fun c_19 => ?_)
                    · rw [if_pos c_19] at hR
                      have i_19 := congrArg Int32.toInt c_19
                      refine lv_iconst (v := (0 : Int32)) hx hb dX8_walkedBits_127 (by decide) ?_
                      subst hR
                      exact W.iret (v := (0 : Int32)) hx hb hr (fun t ht hW9 => ⟨⟨(0 : Int32), Ω, rfl, ⟨rfl, rfl⟩, by rw [oB, ht]; exact hW⟩, hS.F ht⟩) hS.2.2 dX8_walkedBits_128
                    · rw [if_neg c_19] at hR
                      have i_19 := rne c_19
                      refine lv_aload_n hx hb dX8_walkedBits_116 rfl (lv_at hl 1 rfl) ?_
                      refine o_get hx hb hts hown hK hW (inMBO_o h_p0) rfl ig8 7 (by decide) fl_X8_57 rfl dX8_walkedBits_117 ?_
                      refine lv_iload_n hx hb dX8_walkedBits_120 rfl (lv_at hl 4 rfl) ?_
                      refine o_ViR (rest := []) (As := [.int x3_9]) (n := 1) hx hb hml hown hts hK hN hZ hW hS hA (c_X0_isGate l G A Ω p0b p0b_0 x3_9 hB_p0b h_p0b) (inBlk_o h_p0b) rfl (good_V ml_X8_252 im_X0_isGate se_X0_isGate ini_X0 co_X0_isGate) (by decide +kernel) ⟨Nat.zero_le _, Nat.zero_le _⟩ hl.1 (Nat.le_of_ble_eq_true rfl) rfl rfl dX8_walkedBits_121 (fun r H locs hp hW hS => ?_)
                      obtain ⟨rfl, hz_21⟩ := hp
                      refine lv_if_eq (tgt := 129) hx hb dX8_walkedBits_124 (by decide) (fun c_22 => ?_) (fun c_22 => ?_)
                      · rw [if_pos c_22] at hR
                        have i_22 := congrArg Int32.toInt c_22
                        refine lv_iload hx hb dX8_walkedBits_129 (lv_at hl 0 rfl) ?_
                        refine lv_if_ne (tgt := 157) hx hb dX8_walkedBits_131 (by decide) (fun c_23 => ?_) (fun c_23 => ?_)
                        · rw [if_neg c_23] at hR
                          have i_23 := rne c_23
                          refine lv_iinc (v := (x3_9 + (1 : Int32))) (lv' := [(3, .int (x3_9 + (1 : Int32))), (4, .int ((p0b_0 5) x3_9.toNatClampNeg)), (0, .ref p0), (1, .int x1), (2, .int x2_9)]) hx hb dX8_walkedBits_157 hl (k := 4) rfl rfl (by decide) rfl (fun ls hl => ?_)
                          refine lv_goto (tgt := 58) hx hb dX8_walkedBits_160 (by decide) ?_
                          have j_24 : (1 : Int32).toInt = 1 := by decide
                          try have j_25 : (x3_9 + (1 : Int32)).toInt = x3_9.toInt + (1 : Int32).toInt := fb_addI (by omega) (by omega)
                          exact ih58 x2_9 (x3_9 + (1 : Int32)) H locs (by omega) hW hS ls (lv_sub hl [2, 3, 4, 0] rfl) hR
                        · rw [if_pos c_23] at hR
                          have i_23 := congrArg Int32.toInt c_23
                          refine lv_aload_n hx hb dX8_walkedBits_134 rfl (lv_at hl 1 rfl) ?_
                          refine o_get hx hb hts hown hK hW (inMBO_o h_p0) rfl ig8 7 (by decide) fl_X8_57 rfl dX8_walkedBits_135 ?_
                          refine lv_iload_n hx hb dX8_walkedBits_138 rfl (lv_at hl 4 rfl) ?_
                          refine o_ViR (rest := []) (As := [.int x3_9]) (n := 1) hx hb hml hown hts hK hN hZ hW hS hA (c_X0_isLock l G A Ω p0b p0b_0 x3_9 hB_p0b h_p0b) (inBlk_o h_p0b) rfl (good_V ml_X8_256 im_X0_isLock se_X0_isLock ini_X0 co_X0_isLock) (by decide +kernel) ⟨Nat.zero_le _, Nat.zero_le _⟩ hl.1 (Nat.le_of_ble_eq_true rfl) rfl rfl dX8_walkedBits_139 (fun r H locs hp hW hS => ?_)
                          obtain ⟨rfl, hz_26⟩ := hp
                          refine lv_if_ne (tgt := 157) hx hb dX8_walkedBits_142 (by decide) (fun c_27 => ?_) (fun c_27 => ?_)
                          · rw [if_neg c_27] at hR
                            have i_27 := rne c_27
                            refine lv_iinc (v := (x3_9 + (1 : Int32))) (lv' := [(3, .int (x3_9 + (1 : Int32))), (4, .int ((p0b_0 5) x3_9.toNatClampNeg)), (0, .ref p0), (1, .int x1), (2, .int x2_9)]) hx hb dX8_walkedBits_157 hl (k := 4) rfl rfl (by decide) rfl (fun ls hl => ?_)
                            refine lv_goto (tgt := 58) hx hb dX8_walkedBits_160 (by decide) ?_
                            have j_28 : (1 : Int32).toInt = 1 := by decide
                            try have j_29 : (x3_9 + (1 : Int32)).toInt = x3_9.toInt + (1 : Int32).toInt := fb_addI (by omega) (by omega)
                            exact ih58 x2_9 (x3_9 + (1 : Int32)) H locs (by omega) hW hS ls (lv_sub hl [2, 3, 4, 0] rfl) hR
                          · rw [if_pos c_27] at hR
                            have i_27 := congrArg Int32.toInt c_27
                            refine lv_iload_n hx hb dX8_walkedBits_145 rfl (lv_at hl 3 rfl) ?_
                            refine lv_aload_n hx hb dX8_walkedBits_146 rfl (lv_at hl 1 rfl) ?_
                            refine o_get hx hb hts hown hK hW (inMBO_o h_p0) rfl ig8 7 (by decide) fl_X8_57 rfl dX8_walkedBits_147 ?_
                            refine o_get hx hb hts hown hK hW (inBlk_o h_p0b) rfl ig0 10 (by decide) fl_X8_259 rfl dX8_walkedBits_150 ?_
                            refine lv_iload_n hx hb dX8_walkedBits_153 rfl (lv_at hl 4 rfl) ?_
                            refine o_iald hx hb hK hW (inBlk_a7 h_p0b) (vp_in_iff.mpr ⟨by omega, by omega⟩) dX8_walkedBits_154 ?_
                            refine lv_ior hx hb dX8_walkedBits_155 ?_
                            refine lv_istore_n (lv' := [(2, .int (x2_9 ||| ((p0b_0 8) x3_9.toNatClampNeg))), (4, .int ((p0b_0 5) x3_9.toNatClampNeg)), (0, .ref p0), (1, .int x1), (3, .int x3_9)]) hx hb dX8_walkedBits_156 rfl hl (by decide) rfl (fun ls hl => ?_)
                            refine lv_iinc (v := (x3_9 + (1 : Int32))) (lv' := [(3, .int (x3_9 + (1 : Int32))), (2, .int (x2_9 ||| ((p0b_0 8) x3_9.toNatClampNeg))), (4, .int ((p0b_0 5) x3_9.toNatClampNeg)), (0, .ref p0), (1, .int x1)]) hx hb dX8_walkedBits_157 hl (k := 4) rfl rfl (by decide) rfl (fun ls hl => ?_)
                            refine lv_goto (tgt := 58) hx hb dX8_walkedBits_160 (by decide) ?_
                            have j_30 : (1 : Int32).toInt = 1 := by decide
                            try have j_31 : (x3_9 + (1 : Int32)).toInt = x3_9.toInt + (1 : Int32).toInt := fb_addI (by omega) (by omega)
                            exact ih58 (x2_9 ||| ((p0b_0 8) x3_9.toNatClampNeg)) (x3_9 + (1 : Int32)) H locs (by omega) hW hS ls (lv_sub hl [3, 4, 1, 0] rfl) hR
                      · rw [if_neg c_22] at hR
                        have i_22 := rne c_22
                        refine lv_iconst (v := (0 : Int32)) hx hb dX8_walkedBits_127 (by decide) ?_
                        subst hR
                        exact W.iret (v := (0 : Int32)) hx hb hr (fun t ht hW9 => ⟨⟨(0 : Int32), Ω, rfl, ⟨rfl, rfl⟩, by rw [oB, ht]; exact hW⟩, hS.F ht⟩) hS.2.2 dX8_walkedBits_128
              · rw [if_neg c_13] at hR
                have i_13 := rne c_13
                refine lv_goto (tgt := 157) hx hb dX8_walkedBits_82 (by decide) ?_
                refine lv_iinc (v := (x3_9 + (1 : Int32))) (lv' := [(3, .int (x3_9 + (1 : Int32))), (0, .ref p0), (1, .int x1), (2, .int x2_9)]) hx hb dX8_walkedBits_157 hl (k := 3) rfl rfl (by decide) rfl (fun ls hl => ?_)
                refine lv_goto (tgt := 58) hx hb dX8_walkedBits_160 (by decide) ?_
                have j_32 : (1 : Int32).toInt = 1 := by decide
                try have j_33 : (x3_9 + (1 : Int32)).toInt = x3_9.toInt + (1 : Int32).toInt := fb_addI (by omega) (by omega)
                exact ih58 x2_9 (x3_9 + (1 : Int32)) H locs (by omega) hW hS ls (lv_sub hl [1, 2, 3, 0] rfl) hR
        exact L58 4000 (0 : Int32) (0 : Int32) H locs (by omega) hW hS ls (lv_sub hl [2, 3, 1, 0] rfl) hR
      · rw [if_neg c_7] at hR
        have i_7 := rne c_7
        refine lv_iconst (v := (0 : Int32)) hx hb dX8_walkedBits_52 (by decide) ?_
        subst hR
        exact W.iret (v := (0 : Int32)) hx hb hr (fun t ht hW9 => ⟨⟨(0 : Int32), Ω, rfl, ⟨rfl, rfl⟩, by rw [oB, ht]; exact hW⟩, hS.F ht⟩) hS.2.2 dX8_walkedBits_53
set_option maxHeartbeats 4000000 in
set_option maxRecDepth 100000 in
theorem c_X8_stepOfWalk (l : Launch) (G : Gm) (A : Nat → Prop) (Ω : Om) (p0 : Nat) (p0b : Nat) (p0pb : Nat) (p0n_0 : Int32) (p0n_1 : Int32) (p0nm_0 : Fn) (p0nm_1 : Fn) (p0nm_2 : Fn) (p0nm_3 : Fn) (p0b_0 : Blk) (x1 : Int32) (x2 : Int32) (x3 : Int32) (hbo : (p0b = p0 + 4 ∧ p0pb = p0 + 132) ∨ (p0b = p0 + 132 ∧ p0pb = p0 + 4)) (hB_p0b : BlkInv p0b_0) (hi_x1 : 0 ≤ x1.toInt ∧ x1.toInt < 6) (h_p0 : inMBO G Ω p0 p0b) (h_p0n : inSitO G Ω (p0 + 18) p0n_0 p0n_1) (h_p0nm : inDev G Ω (p0 + 24) p0nm_0 p0nm_1 p0nm_2 p0nm_3) (h_p0b : inBlk G Ω p0b p0b_0) : Met l yX8_stepOfWalk (wz yX8_stepOfWalk cX8_stepOfWalk 4 (some .int)) ({ frames := 1, cells := 0, slots := 0, locals := 24 } : Room) (va_Pc [.ref p0, .int x1, .int x2, .int x3] (oS G A Ω)) (va_Qi (fun (r : Int32) (Ω1 : Om) => r = (f_X8_stepOfWalk p0nm_0 p0nm_3 p0b_0 x1 x2 x3) ∧ Ω1 = Ω) (oB G A) A) 0 0 A := by
  refine Met.ofW (cc := cX8_stepOfWalk) (maxL := 4) (ret := (some .int)) (by decide) rfl ?_
  intro p e s m args below meth c s₁ B hml hv
  obtain ⟨rfl, hW, hK, hN, hZ⟩ := hv
  have hx := B.exec
  have hb := B.bytes
  have hr := B.returns
  have hts : ∀ w ∈ gt, w.before _ s = true := fun w hw => atoms_spec (ws := wz yX8_stepOfWalk cX8_stepOfWalk 4 (some .int)) B.pre w (List.mem_cons_of_mem _ hw)
  have hown : s.vm.findClass RX8 = some m.cls := findClass_of_methodNamed B.named
  have hlocks := B.notSynchronized
  have hA : ∀ q, A q → A q := fun _ h => h
  have hS : va_S A s.heap s.heap [] := va_S.rf
  have hS0 := hS
  have hl := lv_entry ([.ref p0, .int x1, .int x2, .int x3]) (n := 4) (Nat.le_of_ble_eq_true rfl)
  rw [lg_entry_eq]
  generalize (lg_sl ([.ref p0, .int x1, .int x2, .int x3]) ++ List.replicate (4 - (lg_sl ([.ref p0, .int x1, .int x2, .int x3])).length) Slot.unset).toArray = ls at hl ⊢
  have hl : lv_has ls 4 [(0, .ref p0), (1, .int x1), (2, .int x2), (3, .int x3)] := hl
  generalize hR : (f_X8_stepOfWalk p0nm_0 p0nm_3 p0b_0 x1 x2 x3) = R
  rw [f_X8_stepOfWalk] at hR
  refine lv_iload_n hx hb dX8_stepOfWalk_0 rfl (lv_at hl 3 rfl) ?_
  by_cases c_1 : x3 = (0 : Int32)
  · rw [if_pos c_1] at hR
    refine lv_lookup (tgt := 28) hx hb dX8_stepOfWalk_1 (by decide) (by rw [c_1] <;> rfl) (by decide) ?_
    have i_1 := congrArg Int32.toInt c_1
    have j_2 : (0 : Int32).toInt = 0 := by decide
    refine lv_aload_n hx hb dX8_stepOfWalk_28 rfl (lv_at hl 0 rfl) ?_
    refine o_get hx hb hts hown hK hW (inMBO_o h_p0) rfl ig8 7 (by decide) fl_X8_57 rfl dX8_stepOfWalk_29 ?_
    refine o_get hx hb hts hown hK hW (inBlk_o h_p0b) rfl ig0 3 (by decide) fl_X8_158 rfl dX8_stepOfWalk_32 ?_
    refine lv_iload_n hx hb dX8_stepOfWalk_35 rfl (lv_at hl 1 rfl) ?_
    refine o_iald hx hb hK hW (inBlk_a0 h_p0b) (vp_in_iff.mpr ⟨by omega, by omega⟩) dX8_stepOfWalk_36 ?_
    subst hR
    exact W.iret (v := ((p0b_0 1) x1.toNatClampNeg)) hx hb hr (fun t ht hW9 => ⟨⟨((p0b_0 1) x1.toNatClampNeg), Ω, rfl, ⟨rfl, rfl⟩, by rw [oB, ht]; exact hW⟩, hS.F ht⟩) hS.2.2 dX8_stepOfWalk_37
  rw [if_neg c_1] at hR
  by_cases c_3 : x3 = (1 : Int32)
  · rw [if_pos c_3] at hR
    refine lv_lookup (tgt := 38) hx hb dX8_stepOfWalk_1 (by decide) (by rw [c_3] <;> rfl) (by decide) ?_
    have i_3 := congrArg Int32.toInt c_3
    refine lv_aload_n hx hb dX8_stepOfWalk_38 rfl (lv_at hl 0 rfl) ?_
    refine o_get hx hb hts hown hK hW (inMBO_o h_p0) rfl ig8 2 (by decide) fl_X8_28 rfl dX8_stepOfWalk_39 ?_
    refine o_get hx hb hts hown hK hW (inSitO_o h_p0n) rfl ig5 1 (by decide) fl_X8_152 rfl dX8_stepOfWalk_42 ?_
    refine o_get hx hb hts hown hK hW (inDev_o h_p0nm) rfl ig1 0 (by decide) fl_X8_262 rfl dX8_stepOfWalk_45 ?_
    refine lv_iload_n hx hb dX8_stepOfWalk_48 rfl (lv_at hl 1 rfl) ?_
    refine o_iald hx hb hK hW (inDev_a0 h_p0nm) (vp_in_iff.mpr ⟨by omega, by omega⟩) dX8_stepOfWalk_49 ?_
    refine lv_aload_n hx hb dX8_stepOfWalk_50 rfl (lv_at hl 0 rfl) ?_
    refine o_get hx hb hts hown hK hW (inMBO_o h_p0) rfl ig8 7 (by decide) fl_X8_57 rfl dX8_stepOfWalk_51 ?_
    refine lv_iload_n hx hb dX8_stepOfWalk_54 rfl (lv_at hl 1 rfl) ?_
    refine o_ViR (rest := [.int (p0nm_0 x1.toNatClampNeg)]) (As := [.int x1]) (n := 1) hx hb hml hown hts hK hN hZ hW hS hA (c_X0_plainBits l G A Ω p0b p0b_0 x1 hB_p0b h_p0b) (inBlk_o h_p0b) rfl (good_V ml_X8_263 im_X0_plainBits se_X0_plainBits ini_X0 co_X0_plainBits) (by decide +kernel) ⟨Nat.zero_le _, Nat.zero_le _⟩ hl.1 (Nat.le_of_ble_eq_true rfl) rfl rfl dX8_stepOfWalk_55 (fun r H locs hp hW hS => ?_)
    subst hp
    refine lv_iand hx hb dX8_stepOfWalk_58 ?_
    refine lv_iload_n hx hb dX8_stepOfWalk_59 rfl (lv_at hl 2 rfl) ?_
    refine lv_ixor hx hb dX8_stepOfWalk_60 ?_
    subst hR
    exact W.iret (v := (((p0nm_0 x1.toNatClampNeg) &&& (f_X0_plainBits p0b_0 x1)) ^^^ x2)) hx hb hr (fun t ht hW9 => ⟨⟨(((p0nm_0 x1.toNatClampNeg) &&& (f_X0_plainBits p0b_0 x1)) ^^^ x2), Ω, rfl, ⟨rfl, rfl⟩, by rw [oB, ht]; exact hW⟩, hS.F ht⟩) hS.2.2 dX8_stepOfWalk_61
  rw [if_neg c_3] at hR
  have i_1 := lv_neT c_1 (a := 0) rfl
  have i_3 := lv_neT c_3 (a := 1) rfl
  refine lv_lookup (tgt := 62) (off := 61) hx hb dX8_stepOfWalk_1 (by decide) (show Op.lookupswitch.offset [(0, 27), (1, 37)] 61 x3.toInt = 61 by rw [lv_osw (a := 0) c_1 rfl, lv_osw (a := 1) c_3 rfl]; rfl) (by decide) ?_
  refine lv_aload_n hx hb dX8_stepOfWalk_62 rfl (lv_at hl 0 rfl) ?_
  refine o_get hx hb hts hown hK hW (inMBO_o h_p0) rfl ig8 2 (by decide) fl_X8_28 rfl dX8_stepOfWalk_63 ?_
  refine o_get hx hb hts hown hK hW (inSitO_o h_p0n) rfl ig5 1 (by decide) fl_X8_152 rfl dX8_stepOfWalk_66 ?_
  refine lv_aload_n hx hb dX8_stepOfWalk_69 rfl (lv_at hl 0 rfl) ?_
  refine o_get hx hb hts hown hK hW (inMBO_o h_p0) rfl ig8 7 (by decide) fl_X8_57 rfl dX8_stepOfWalk_70 ?_
  refine lv_iload_n hx hb dX8_stepOfWalk_73 rfl (lv_at hl 1 rfl) ?_
  refine o_ViR (rest := []) (As := [.ref p0b, .int x1]) (n := 2) hx hb hml hown hts hK hN hZ hW hS hA (c_X1_shown l G A Ω (p0 + 24) p0b p0nm_0 p0nm_1 p0nm_2 p0nm_3 p0b_0 x1 hB_p0b (by omega) h_p0nm h_p0b) (inDev_o h_p0nm) rfl (good_V ml_X8_266 im_X1_shown se_X1_shown ini_X1 co_X1_shown) (by decide +kernel) ⟨Nat.zero_le _, Nat.zero_le _⟩ hl.1 (Nat.le_of_ble_eq_true rfl) rfl rfl dX8_stepOfWalk_74 (fun r H locs hp hW hS => ?_)
  subst hp
  refine lv_iload_n hx hb dX8_stepOfWalk_77 rfl (lv_at hl 2 rfl) ?_
  refine lv_ixor hx hb dX8_stepOfWalk_78 ?_
  subst hR
  exact W.iret (v := ((f_X1_shown p0nm_0 p0nm_3 p0b_0 x1) ^^^ x2)) hx hb hr (fun t ht hW9 => ⟨⟨((f_X1_shown p0nm_0 p0nm_3 p0b_0 x1) ^^^ x2), Ω, rfl, ⟨rfl, rfl⟩, by rw [oB, ht]; exact hW⟩, hS.F ht⟩) hS.2.2 dX8_stepOfWalk_79
set_option maxHeartbeats 4000000 in
set_option maxRecDepth 100000 in
theorem c_X8_walk (l : Launch) (G : Gm) (A : Nat → Prop) (Ω : Om) (p0 : Nat) (p0b : Nat) (p0pb : Nat) (p0n_0 : Int32) (p0n_1 : Int32) (p0nm_0 : Fn) (p0nm_1 : Fn) (p0nm_2 : Fn) (p0nm_3 : Fn) (p0b_0 : Blk) (x1 : Int32) (x2 : Int32) (hbo : (p0b = p0 + 4 ∧ p0pb = p0 + 132) ∨ (p0b = p0 + 132 ∧ p0pb = p0 + 4)) (hB_p0b : BlkInv p0b_0) (h_p0 : inMBO G Ω p0 p0b) (h_p0n : inSitO G Ω (p0 + 18) p0n_0 p0n_1) (h_p0nm : inDev G Ω (p0 + 24) p0nm_0 p0nm_1 p0nm_2 p0nm_3) (h_p0b : inBlk G Ω p0b p0b_0) : Met l yX8_walk (wz yX8_walk cX8_walk 8 (some .int)) ({ frames := 3, cells := 0, slots := 0, locals := 69 } : Room) (va_Pc [.ref p0, .int x1, .int x2] (oS G A Ω)) (va_Qi (fun (r : Int32) (Ω1 : Om) => r = (f_X8_walk p0nm_0 p0nm_3 p0b_0 x1 x2) ∧ Ω1 = Ω) (oB G A) A) 0 0 A := by
  refine Met.ofW (cc := cX8_walk) (maxL := 8) (ret := (some .int)) (by decide) rfl ?_
  intro p e s m args below meth c s₁ B hml hv
  obtain ⟨rfl, hW, hK, hN, hZ⟩ := hv
  have hx := B.exec
  have hb := B.bytes
  have hr := B.returns
  have hts : ∀ w ∈ gt, w.before _ s = true := fun w hw => atoms_spec (ws := wz yX8_walk cX8_walk 8 (some .int)) B.pre w (List.mem_cons_of_mem _ hw)
  have hown : s.vm.findClass RX8 = some m.cls := findClass_of_methodNamed B.named
  have hlocks := B.notSynchronized
  have hA : ∀ q, A q → A q := fun _ h => h
  have hS : va_S A s.heap s.heap [] := va_S.rf
  have hS0 := hS
  have hl := lv_entry ([.ref p0, .int x1, .int x2]) (n := 8) (Nat.le_of_ble_eq_true rfl)
  rw [lg_entry_eq]
  generalize (lg_sl ([.ref p0, .int x1, .int x2]) ++ List.replicate (8 - (lg_sl ([.ref p0, .int x1, .int x2])).length) Slot.unset).toArray = ls at hl ⊢
  have hl : lv_has ls 8 [(0, .ref p0), (1, .int x1), (2, .int x2)] := hl
  generalize hR : (f_X8_walk p0nm_0 p0nm_3 p0b_0 x1 x2) = R
  rw [f_X8_walk] at hR
  refine lv_iload_n hx hb dX8_walk_0 rfl (lv_at hl 1 rfl) ?_
  refine lv_iconst (v := (-1 : Int32)) hx hb dX8_walk_1 (by decide) ?_
  have j_2 : (-1 : Int32).toInt = -1 := by decide
  refine lv_icmp_lt (tgt := 13) hx hb dX8_walk_2 (by decide) (fun c_1 => ?_) (fun c_1 => ?_)
  · rw [if_pos c_1] at hR
    have i_1 := rlt c_1
    refine lv_iconst (v := (-1 : Int32)) hx hb dX8_walk_13 (by decide) ?_
    subst hR
    exact W.iret (v := (-1 : Int32)) hx hb hr (fun t ht hW9 => ⟨⟨(-1 : Int32), Ω, rfl, ⟨rfl, rfl⟩, by rw [oB, ht]; exact hW⟩, hS.F ht⟩) hS.2.2 dX8_walk_14
  · rw [if_neg c_1] at hR
    have i_1 := rnlt c_1
    refine lv_iload_n hx hb dX8_walk_5 rfl (lv_at hl 2 rfl) ?_
    refine lv_iconst (v := (3 : Int32)) hx hb dX8_walk_6 (by decide) ?_
    have j_3 : (3 : Int32).toInt = 3 := by decide
    refine o_SiR (rest := []) (As := [.int x2, .int (3 : Int32)]) (n := 2) hx hb hml hown hts hK hN hZ hW hS hA (c_X8_isWithin l G A Ω x2 (3 : Int32)) ml_X8_61 st_X8_isWithin ini_X8 co_X8_isWithin (by decide +kernel) ⟨Nat.zero_le _, Nat.zero_le _⟩ hl.1 (Nat.le_of_ble_eq_true rfl) rfl rfl dX8_walk_7 (fun r H locs hp hW hS => ?_)
    obtain ⟨rfl, hz_4⟩ := hp
    have j_6 : (0 : Int32).toInt = 0 := by decide
    refine lv_if_ne (tgt := 15) hx hb dX8_walk_10 (by decide) (fun c_5 => ?_) (fun c_5 => ?_)
    · rw [if_neg c_5] at hR
      have i_5 := rne c_5
      have b_c_5 := rIW c_5
      refine lv_iconst (v := (0 : Int32)) hx hb dX8_walk_15 (by decide) ?_
      refine lv_istore_n (lv' := [(3, .int (0 : Int32)), (0, .ref p0), (1, .int x1), (2, .int x2)]) hx hb dX8_walk_16 rfl hl (by decide) rfl (fun ls hl => ?_)
      refine lv_iconst (v := (0 : Int32)) hx hb dX8_walk_17 (by decide) ?_
      refine lv_istore (lv' := [(4, .int (0 : Int32)), (3, .int (0 : Int32)), (0, .ref p0), (1, .int x1), (2, .int x2)]) hx hb dX8_walk_18 hl (by decide) rfl (fun ls hl => ?_)
      have L20 : ∀ (n_8 : Nat) (x3_7 : Int32) (x4_7 : Int32) (H : Heap) (locs : List Loc), (0 ≤ x4_7.toInt ∧ x4_7.toInt ≤ 6 ∧ 6 - x4_7.toInt < n_8) → oW G A Ω H → va_S A s.heap H locs → ∀ ls : Array Slot, lv_has ls 8 [(0, .ref p0), (1, .int x1), (2, .int x2), (3, .int x3_7), (4, .int x4_7)] → (f_X8_walk_L20 p0nm_0 p0nm_3 p0b_0 x1 x2 n_8 x3_7 x4_7) = R → W p l e (headSpec (wz yX8_walk cX8_walk 8 (some .int)) ({ frames := 3, cells := 0, slots := 0, locals := 69 } : Room)).room s m ([.ref p0, .int x1, .int x2] : List Value).toArray below meth c H locs 0 0 (MQ below (va_Qi (fun (r : Int32) (Ω1 : Om) => r = R ∧ Ω1 = Ω) (oB G A) A) ([.ref p0, .int x1, .int x2] : List Value).toArray s 0 0 A) (F0 m 20 ls []) := by
        intro n_8
        induction n_8 with
        | zero =>
          intro x3_7 x4_7 H locs v_20_0 hW hS ls hl hR
          exfalso
          omega
        | succ n_8 ih20 =>
          intro x3_7 x4_7 H locs v_20_0 hW hS ls hl hR
          rw [f_X8_walk_L20] at hR
          refine lv_iload hx hb dX8_walk_20 (lv_at hl 4 rfl) ?_
          refine lv_aload_n hx hb dX8_walk_22 rfl (lv_at hl 0 rfl) ?_
          refine o_get hx hb hts hown hK hW (inMBO_o h_p0) rfl ig8 7 (by decide) fl_X8_57 rfl dX8_walk_23 ?_
          refine o_get hx hb hts hown hK hW (inBlk_o h_p0b) rfl ig0 0 (by decide) fl_X8_155 rfl dX8_walk_26 ?_
          try have j_10 : 0 ≤ (p0b_0 0 0).toInt ∧ (p0b_0 0 0).toInt ≤ 6 := BI_regs (by assumption)
          refine lv_icmp_ge (tgt := 97) hx hb dX8_walk_29 (by decide) (fun c_9 => ?_) (fun c_9 => ?_)
          · rw [if_pos c_9] at hR
            have i_9 := rle c_9
            refine lv_iload_n hx hb dX8_walk_97 rfl (lv_at hl 1 rfl) ?_
            refine lv_iconst (v := (-1 : Int32)) hx hb dX8_walk_98 (by decide) ?_
            refine lv_icmp_ne (tgt := 106) hx hb dX8_walk_99 (by decide) (fun c_11 => ?_) (fun c_11 => ?_)
            · rw [if_neg c_11] at hR
              have i_11 := rne c_11
              refine lv_bipush (v := (-9 : Int32)) hx hb dX8_walk_106 (by decide) ?_
              subst hR
              exact W.iret (v := (-9 : Int32)) hx hb hr (fun t ht hW9 => ⟨⟨(-9 : Int32), Ω, rfl, ⟨rfl, rfl⟩, by rw [oB, ht]; exact hW⟩, hS.F ht⟩) hS.2.2 dX8_walk_108
            · rw [if_pos c_11] at hR
              have i_11 := congrArg Int32.toInt c_11
              refine lv_iload_n hx hb dX8_walk_102 rfl (lv_at hl 3 rfl) ?_
              refine lv_goto (tgt := 108) hx hb dX8_walk_103 (by decide) ?_
              subst hR
              exact W.iret (v := x3_7) hx hb hr (fun t ht hW9 => ⟨⟨x3_7, Ω, rfl, ⟨rfl, rfl⟩, by rw [oB, ht]; exact hW⟩, hS.F ht⟩) hS.2.2 dX8_walk_108
          · rw [if_neg c_9] at hR
            have i_9 := rnle c_9
            refine lv_aload_n hx hb dX8_walk_32 rfl (lv_at hl 0 rfl) ?_
            refine lv_iload hx hb dX8_walk_33 (lv_at hl 4 rfl) ?_
            refine o_ViR (rest := []) (As := [.int x4_7]) (n := 1) hx hb hml hown hts hK hN hZ hW hS hA (c_X8_walkedBits l G A Ω p0 p0b p0pb p0n_0 p0n_1 p0nm_0 p0nm_1 p0nm_2 p0nm_3 p0b_0 x4_7 hbo hB_p0b (by omega) h_p0 h_p0n h_p0nm h_p0b) (inMBO_o h_p0) rfl (good_V ml_X8_219 im_X8_walkedBits se_X8_walkedBits ini_X8 co_X8_walkedBits) (by decide +kernel) ⟨Nat.zero_le _, Nat.zero_le _⟩ hl.1 (Nat.le_of_ble_eq_true rfl) rfl rfl dX8_walk_35 (fun r H locs hp hW hS => ?_)
            subst hp
            refine lv_istore (lv' := [(5, .int (f_X8_walkedBits p0nm_0 p0b_0 x4_7)), (0, .ref p0), (1, .int x1), (2, .int x2), (3, .int x3_7), (4, .int x4_7)]) hx hb dX8_walk_38 hl (by decide) rfl (fun ls hl => ?_)
            refine lv_iconst (v := (0 : Int32)) hx hb dX8_walk_40 (by decide) ?_
            refine lv_istore (lv' := [(6, .int (0 : Int32)), (5, .int (f_X8_walkedBits p0nm_0 p0b_0 x4_7)), (0, .ref p0), (1, .int x1), (2, .int x2), (3, .int x3_7), (4, .int x4_7)]) hx hb dX8_walk_41 hl (by decide) rfl (fun ls hl => ?_)
            have L43 : ∀ (n_14 : Nat) (x3_13 : Int32) (x6_13 : Int32) (H : Heap) (locs : List Loc), (0 ≤ x6_13.toInt ∧ x6_13.toInt ≤ 8 ∧ 8 - x6_13.toInt < n_14) → oW G A Ω H → va_S A s.heap H locs → ∀ ls : Array Slot, lv_has ls 8 [(0, .ref p0), (1, .int x1), (2, .int x2), (3, .int x3_13), (4, .int x4_7), (5, .int (f_X8_walkedBits p0nm_0 p0b_0 x4_7)), (6, .int x6_13)] → (f_X8_walk_L43 p0nm_0 p0nm_3 p0b_0 x1 x2 x4_7 (f_X8_walkedBits p0nm_0 p0b_0 x4_7) (f_X8_walk_L20 p0nm_0 p0nm_3 p0b_0 x1 x2 n_8) n_14 x3_13 x6_13) = R → W p l e (headSpec (wz yX8_walk cX8_walk 8 (some .int)) ({ frames := 3, cells := 0, slots := 0, locals := 69 } : Room)).room s m ([.ref p0, .int x1, .int x2] : List Value).toArray below meth c H locs 0 0 (MQ below (va_Qi (fun (r : Int32) (Ω1 : Om) => r = R ∧ Ω1 = Ω) (oB G A) A) ([.ref p0, .int x1, .int x2] : List Value).toArray s 0 0 A) (F0 m 43 ls []) := by
              intro n_14
              induction n_14 with
              | zero =>
                intro x3_13 x6_13 H locs v_43_0 hW hS ls hl hR
                exfalso
                omega
              | succ n_14 ih43 =>
                intro x3_13 x6_13 H locs v_43_0 hW hS ls hl hR
                rw [f_X8_walk_L43] at hR
                refine lv_iload hx hb dX8_walk_43 (lv_at hl 6 rfl) ?_
                refine lv_bipush (v := (8 : Int32)) hx hb dX8_walk_45 (by decide) ?_
                have j_16 : (8 : Int32).toInt = 8 := by decide
                refine lv_icmp_ge (tgt := 91) hx hb dX8_walk_47 (by decide) (fun c_15 => ?_) (fun c_15 => ?_)
                · rw [if_pos c_15] at hR
                  have i_15 := rle c_15
                  refine lv_iinc (v := (x4_7 + (1 : Int32))) (lv' := [(4, .int (x4_7 + (1 : Int32))), (0, .ref p0), (1, .int x1), (2, .int x2), (3, .int x3_13), (5, .int (f_X8_walkedBits p0nm_0 p0b_0 x4_7)), (6, .int x6_13)]) hx hb dX8_walk_91 hl (k := 4) rfl rfl (by decide) rfl (fun ls hl => ?_)
                  refine lv_goto (tgt := 20) hx hb dX8_walk_94 (by decide) ?_
                  have j_17 : (1 : Int32).toInt = 1 := by decide
                  try have j_18 : (x4_7 + (1 : Int32)).toInt = x4_7.toInt + (1 : Int32).toInt := fb_addI (by omega) (by omega)
                  exact ih20 x3_13 (x4_7 + (1 : Int32)) H locs (by omega) hW hS ls (lv_sub hl [1, 2, 3, 4, 0] rfl) hR
                · rw [if_neg c_15] at hR
                  have i_15 := rnle c_15
                  refine lv_iconst (v := (1 : Int32)) hx hb dX8_walk_50 (by decide) ?_
                  refine lv_iload hx hb dX8_walk_51 (lv_at hl 6 rfl) ?_
                  refine lv_ishl hx hb dX8_walk_53 ?_
                  refine lv_istore (lv' := [(7, .int ((1 : Int32) <<< (x6_13 &&& 31))), (0, .ref p0), (1, .int x1), (2, .int x2), (3, .int x3_13), (4, .int x4_7), (5, .int (f_X8_walkedBits p0nm_0 p0b_0 x4_7)), (6, .int x6_13)]) hx hb dX8_walk_54 hl (by decide) rfl (fun ls hl => ?_)
                  refine lv_iload hx hb dX8_walk_56 (lv_at hl 6 rfl) ?_
                  refine lv_iload hx hb dX8_walk_58 (lv_at hl 0 rfl) ?_
                  refine lv_iand hx hb dX8_walk_60 ?_
                  refine lv_if_ne (tgt := 67) hx hb dX8_walk_61 (by decide) (fun c_19 => ?_) (fun c_19 => ?_)
                  · rw [if_neg c_19] at hR
                    have i_19 := rne c_19
                    refine lv_iload_n hx hb dX8_walk_67 rfl (lv_at hl 4 rfl) ?_
                    refine lv_iload_n hx hb dX8_walk_68 rfl (lv_at hl 2 rfl) ?_
                    refine lv_icmp_ne (tgt := 82) hx hb dX8_walk_69 (by decide) (fun c_20 => ?_) (fun c_20 => ?_)
                    · rw [if_neg c_20] at hR
                      have i_20 := rne c_20
                      refine lv_iinc (v := (x3_13 + (1 : Int32))) (lv' := [(3, .int (x3_13 + (1 : Int32))), (7, .int ((1 : Int32) <<< (x6_13 &&& 31))), (0, .ref p0), (1, .int x1), (2, .int x2), (4, .int x4_7), (5, .int (f_X8_walkedBits p0nm_0 p0b_0 x4_7)), (6, .int x6_13)]) hx hb dX8_walk_82 hl (k := 4) rfl rfl (by decide) rfl (fun ls hl => ?_)
                      refine lv_iinc (v := (x6_13 + (1 : Int32))) (lv' := [(6, .int (x6_13 + (1 : Int32))), (3, .int (x3_13 + (1 : Int32))), (7, .int ((1 : Int32) <<< (x6_13 &&& 31))), (0, .ref p0), (1, .int x1), (2, .int x2), (4, .int x4_7), (5, .int (f_X8_walkedBits p0nm_0 p0b_0 x4_7))]) hx hb dX8_walk_85 hl (k := 7) rfl rfl (by decide) rfl (fun ls hl => ?_)
                      refine lv_goto (tgt := 43) hx hb dX8_walk_88 (by decide) ?_
                      have j_21 : (1 : Int32).toInt = 1 := by decide
                      try have j_22 : (x3_13 + (1 : Int32)).toInt = x3_13.toInt + (1 : Int32).toInt := fb_addI (by omega) (by omega)
                      try have j_23 : (x6_13 + (1 : Int32)).toInt = x6_13.toInt + (1 : Int32).toInt := fb_addI (by omega) (by omega)
                      exact ih43 (x3_13 + (1 : Int32)) (x6_13 + (1 : Int32)) H locs (by omega) hW hS ls (lv_sub hl [3, 4, 5, 1, 6, 7, 0] rfl) hR
                    · rw [if_pos c_20] at hR
                      have i_20 := congrArg Int32.toInt c_20
                      refine lv_aload_n hx hb dX8_walk_72 rfl (lv_at hl 1 rfl) ?_
                      refine lv_iload hx hb dX8_walk_73 (lv_at hl 5 rfl) ?_
                      refine lv_iload hx hb dX8_walk_75 (lv_at hl 0 rfl) ?_
                      refine lv_iload_n hx hb dX8_walk_77 rfl (lv_at hl 3 rfl) ?_
                      refine o_ViR (rest := []) (As := [.int x4_7, .int ((1 : Int32) <<< (x6_13 &&& 31)), .int x2]) (n := 3) hx hb hml hown hts hK hN hZ hW hS hA (c_X8_stepOfWalk l G A Ω p0 p0b p0pb p0n_0 p0n_1 p0nm_0 p0nm_1 p0nm_2 p0nm_3 p0b_0 x4_7 ((1 : Int32) <<< (x6_13 &&& 31)) x2 hbo hB_p0b (by omega) h_p0 h_p0n h_p0nm h_p0b) (inMBO_o h_p0) rfl (good_V ml_X8_222 im_X8_stepOfWalk se_X8_stepOfWalk ini_X8 co_X8_stepOfWalk) (by decide +kernel) ⟨Nat.zero_le _, Nat.zero_le _⟩ hl.1 (Nat.le_of_ble_eq_true rfl) rfl rfl dX8_walk_78 (fun r H locs hp hW hS => ?_)
                      subst hp
                      subst hR
                      exact W.iret (v := (f_X8_stepOfWalk p0nm_0 p0nm_3 p0b_0 x4_7 ((1 : Int32) <<< (x6_13 &&& 31)) x2)) hx hb hr (fun t ht hW9 => ⟨⟨(f_X8_stepOfWalk p0nm_0 p0nm_3 p0b_0 x4_7 ((1 : Int32) <<< (x6_13 &&& 31)) x2), Ω, rfl, ⟨rfl, rfl⟩, by rw [oB, ht]; exact hW⟩, hS.F ht⟩) hS.2.2 dX8_walk_81
                  · rw [if_pos c_19] at hR
                    have i_19 := congrArg Int32.toInt c_19
                    refine lv_goto (tgt := 85) hx hb dX8_walk_64 (by decide) ?_
                    refine lv_iinc (v := (x6_13 + (1 : Int32))) (lv' := [(6, .int (x6_13 + (1 : Int32))), (7, .int ((1 : Int32) <<< (x6_13 &&& 31))), (0, .ref p0), (1, .int x1), (2, .int x2), (3, .int x3_13), (4, .int x4_7), (5, .int (f_X8_walkedBits p0nm_0 p0b_0 x4_7))]) hx hb dX8_walk_85 hl (k := 7) rfl rfl (by decide) rfl (fun ls hl => ?_)
                    refine lv_goto (tgt := 43) hx hb dX8_walk_88 (by decide) ?_
                    have j_25 : (1 : Int32).toInt = 1 := by decide
                    try have j_26 : (x6_13 + (1 : Int32)).toInt = x6_13.toInt + (1 : Int32).toInt := fb_addI (by omega) (by omega)
                    exact ih43 x3_13 (x6_13 + (1 : Int32)) H locs (by omega) hW hS ls (lv_sub hl [2, 3, 4, 5, 6, 7, 0] rfl) hR
            exact L43 4000 x3_7 (0 : Int32) H locs (by omega) hW hS ls (lv_sub hl [2, 3, 4, 5, 6, 1, 0] rfl) hR
      exact L20 4000 (0 : Int32) (0 : Int32) H locs (by omega) hW hS ls (lv_sub hl [2, 3, 4, 1, 0] rfl) hR
    · rw [if_pos c_5] at hR
      have i_5 := congrArg Int32.toInt c_5
      refine lv_iconst (v := (-1 : Int32)) hx hb dX8_walk_13 (by decide) ?_
      subst hR
      exact W.iret (v := (-1 : Int32)) hx hb hr (fun t ht hW9 => ⟨⟨(-1 : Int32), Ω, rfl, ⟨rfl, rfl⟩, by rw [oB, ht]; exact hW⟩, hS.F ht⟩) hS.2.2 dX8_walk_14
set_option maxHeartbeats 4000000 in
set_option maxRecDepth 100000 in
theorem c_X8_count (l : Launch) (G : Gm) (A : Nat → Prop) (Ω : Om) (p0 : Nat) (p0b : Nat) (p0pb : Nat) (p0t_0 : Fn) (p0t_1 : Int32) (p0n_0 : Int32) (p0n_1 : Int32) (p0nd_0 : Fn) (p0nd_1 : Fn) (p0nd_2 : Fn) (p0nd_3 : Fn) (p0nj_0 : Int32) (p0nj_1 : Fn) (p0nj_2 : Fn) (p0nj_3 : Fn) (p0h_0 : Nat → Sit) (p0h_1 : Int32) (p0h_2 : Int32) (p0b_0 : Blk) (x1 : Int32) (hbo : (p0b = p0 + 4 ∧ p0pb = p0 + 132) ∨ (p0b = p0 + 132 ∧ p0pb = p0 + 4)) (hT_p0t : 0 ≤ p0t_1.toInt ∧ p0t_1.toInt ≤ 160) (hB_p0b : BlkInv p0b_0) (h_p0 : inMBO G Ω p0 p0b) (h_p0t : inTxt G Ω (p0 + 1) p0t_0 p0t_1) (h_p0n : inSitO G Ω (p0 + 18) p0n_0 p0n_1) (h_p0nd : inDev G Ω (p0 + 19) p0nd_0 p0nd_1 p0nd_2 p0nd_3) (h_p0nj : inJou G Ω (p0 + 29) p0nj_0 p0nj_1 p0nj_2 p0nj_3) (h_p0h : inHis G Ω (p0 + 33) p0h_0 p0h_1 p0h_2) (h_p0b : inBlk G Ω p0b p0b_0) : Met l yX8_count (wz yX8_count cX8_count 2 (some .int)) ({ frames := 2, cells := 0, slots := 0, locals := 42 } : Room) (va_Pc [.ref p0, .int x1] (oS G A Ω)) (va_Qi (fun (r : Int32) (Ω1 : Om) => r = (f_X8_count p0t_1 p0nd_3 p0nj_0 p0h_2 p0b_0 x1) ∧ Ω1 = Ω) (oB G A) A) 0 0 A := by
  refine Met.ofW (cc := cX8_count) (maxL := 2) (ret := (some .int)) (by decide) rfl ?_
  intro p e s m args below meth c s₁ B hml hv
  obtain ⟨rfl, hW, hK, hN, hZ⟩ := hv
  have hx := B.exec
  have hb := B.bytes
  have hr := B.returns
  have hts : ∀ w ∈ gt, w.before _ s = true := fun w hw => atoms_spec (ws := wz yX8_count cX8_count 2 (some .int)) B.pre w (List.mem_cons_of_mem _ hw)
  have hown : s.vm.findClass RX8 = some m.cls := findClass_of_methodNamed B.named
  have hlocks := B.notSynchronized
  have hA : ∀ q, A q → A q := fun _ h => h
  have hS : va_S A s.heap s.heap [] := va_S.rf
  have hS0 := hS
  have hl := lv_entry ([.ref p0, .int x1]) (n := 2) (Nat.le_of_ble_eq_true rfl)
  rw [lg_entry_eq]
  generalize (lg_sl ([.ref p0, .int x1]) ++ List.replicate (2 - (lg_sl ([.ref p0, .int x1])).length) Slot.unset).toArray = ls at hl ⊢
  have hl : lv_has ls 2 [(0, .ref p0), (1, .int x1)] := hl
  generalize hR : (f_X8_count p0t_1 p0nd_3 p0nj_0 p0h_2 p0b_0 x1) = R
  rw [f_X8_count] at hR
  refine lv_iload_n hx hb dX8_count_0 rfl (lv_at hl 1 rfl) ?_
  by_cases c_1 : x1 = (0 : Int32)
  · rw [if_pos c_1] at hR
    refine lv_tableIn (tgt := 48) hx hb dX8_count_1 (by rw [c_1]; decide) (by rw [c_1]; decide) (by rw [c_1]; rfl) (by decide) ?_
    have i_1 := congrArg Int32.toInt c_1
    have j_2 : (0 : Int32).toInt = 0 := by decide
    refine lv_aload_n hx hb dX8_count_48 rfl (lv_at hl 0 rfl) ?_
    refine o_get hx hb hts hown hK hW (inMBO_o h_p0) rfl ig8 7 (by decide) fl_X8_57 rfl dX8_count_49 ?_
    refine o_get hx hb hts hown hK hW (inBlk_o h_p0b) rfl ig0 0 (by decide) fl_X8_155 rfl dX8_count_52 ?_
    subst hR
    exact W.iret (v := (p0b_0 0 0)) hx hb hr (fun t ht hW9 => ⟨⟨(p0b_0 0 0), Ω, rfl, ⟨rfl, rfl⟩, by rw [oB, ht]; exact hW⟩, hS.F ht⟩) hS.2.2 dX8_count_55
  rw [if_neg c_1] at hR
  by_cases c_3 : x1 = (1 : Int32)
  · rw [if_pos c_3] at hR
    refine lv_tableIn (tgt := 56) hx hb dX8_count_1 (by rw [c_3]; decide) (by rw [c_3]; decide) (by rw [c_3]; rfl) (by decide) ?_
    have i_3 := congrArg Int32.toInt c_3
    refine lv_aload_n hx hb dX8_count_56 rfl (lv_at hl 0 rfl) ?_
    refine o_get hx hb hts hown hK hW (inMBO_o h_p0) rfl ig8 7 (by decide) fl_X8_57 rfl dX8_count_57 ?_
    refine o_get hx hb hts hown hK hW (inBlk_o h_p0b) rfl ig0 1 (by decide) fl_X8_126 rfl dX8_count_60 ?_
    subst hR
    exact W.iret (v := (p0b_0 0 1)) hx hb hr (fun t ht hW9 => ⟨⟨(p0b_0 0 1), Ω, rfl, ⟨rfl, rfl⟩, by rw [oB, ht]; exact hW⟩, hS.F ht⟩) hS.2.2 dX8_count_63
  rw [if_neg c_3] at hR
  by_cases c_4 : x1 = (2 : Int32)
  · rw [if_pos c_4] at hR
    refine lv_tableIn (tgt := 64) hx hb dX8_count_1 (by rw [c_4]; decide) (by rw [c_4]; decide) (by rw [c_4]; rfl) (by decide) ?_
    have i_4 := congrArg Int32.toInt c_4
    refine lv_aload_n hx hb dX8_count_64 rfl (lv_at hl 0 rfl) ?_
    refine o_get hx hb hts hown hK hW (inMBO_o h_p0) rfl ig8 7 (by decide) fl_X8_57 rfl dX8_count_65 ?_
    refine o_get hx hb hts hown hK hW (inBlk_o h_p0b) rfl ig0 2 (by decide) fl_X8_174 rfl dX8_count_68 ?_
    subst hR
    exact W.iret (v := (p0b_0 0 2)) hx hb hr (fun t ht hW9 => ⟨⟨(p0b_0 0 2), Ω, rfl, ⟨rfl, rfl⟩, by rw [oB, ht]; exact hW⟩, hS.F ht⟩) hS.2.2 dX8_count_71
  rw [if_neg c_4] at hR
  by_cases c_5 : x1 = (3 : Int32)
  · rw [if_pos c_5] at hR
    refine lv_tableIn (tgt := 72) hx hb dX8_count_1 (by rw [c_5]; decide) (by rw [c_5]; decide) (by rw [c_5]; rfl) (by decide) ?_
    have i_5 := congrArg Int32.toInt c_5
    refine lv_aload_n hx hb dX8_count_72 rfl (lv_at hl 0 rfl) ?_
    refine o_get hx hb hts hown hK hW (inMBO_o h_p0) rfl ig8 7 (by decide) fl_X8_57 rfl dX8_count_73 ?_
    refine o_ViR (rest := []) (As := []) (n := 0) hx hb hml hown hts hK hN hZ hW hS hA (c_X0_bitsOfFields l G A Ω p0b p0b_0 hB_p0b h_p0b) (inBlk_o h_p0b) rfl (good_V ml_X8_228 im_X0_bitsOfFields se_X0_bitsOfFields ini_X0 co_X0_bitsOfFields) (by decide +kernel) ⟨Nat.zero_le _, Nat.zero_le _⟩ hl.1 (Nat.le_of_ble_eq_true rfl) rfl rfl dX8_count_76 (fun r H locs hp hW hS => ?_)
    subst hp
    subst hR
    exact W.iret (v := (f_X0_bitsOfFields p0b_0)) hx hb hr (fun t ht hW9 => ⟨⟨(f_X0_bitsOfFields p0b_0), Ω, rfl, ⟨rfl, rfl⟩, by rw [oB, ht]; exact hW⟩, hS.F ht⟩) hS.2.2 dX8_count_79
  rw [if_neg c_5] at hR
  by_cases c_7 : x1 = (4 : Int32)
  · rw [if_pos c_7] at hR
    refine lv_tableIn (tgt := 80) hx hb dX8_count_1 (by rw [c_7]; decide) (by rw [c_7]; decide) (by rw [c_7]; rfl) (by decide) ?_
    have i_7 := congrArg Int32.toInt c_7
    refine lv_aload_n hx hb dX8_count_80 rfl (lv_at hl 0 rfl) ?_
    refine o_get hx hb hts hown hK hW (inMBO_o h_p0) rfl ig8 2 (by decide) fl_X8_28 rfl dX8_count_81 ?_
    refine o_get hx hb hts hown hK hW (inSitO_o h_p0n) rfl ig5 2 (by decide) fl_X8_92 rfl dX8_count_84 ?_
    refine o_get hx hb hts hown hK hW (inJou_o h_p0nj) rfl ig3 0 (by decide) fl_X8_96 rfl dX8_count_87 ?_
    subst hR
    exact W.iret (v := p0nj_0) hx hb hr (fun t ht hW9 => ⟨⟨p0nj_0, Ω, rfl, ⟨rfl, rfl⟩, by rw [oB, ht]; exact hW⟩, hS.F ht⟩) hS.2.2 dX8_count_90
  rw [if_neg c_7] at hR
  by_cases c_8 : x1 = (5 : Int32)
  · rw [if_pos c_8] at hR
    refine lv_tableIn (tgt := 91) hx hb dX8_count_1 (by rw [c_8]; decide) (by rw [c_8]; decide) (by rw [c_8]; rfl) (by decide) ?_
    have i_8 := congrArg Int32.toInt c_8
    refine lv_aload_n hx hb dX8_count_91 rfl (lv_at hl 0 rfl) ?_
    refine o_get hx hb hts hown hK hW (inMBO_o h_p0) rfl ig8 2 (by decide) fl_X8_28 rfl dX8_count_92 ?_
    refine o_get hx hb hts hown hK hW (inSitO_o h_p0n) rfl ig5 0 (by decide) fl_X8_117 rfl dX8_count_95 ?_
    refine lv_aload_n hx hb dX8_count_98 rfl (lv_at hl 0 rfl) ?_
    refine o_get hx hb hts hown hK hW (inMBO_o h_p0) rfl ig8 7 (by decide) fl_X8_57 rfl dX8_count_99 ?_
    refine o_ViR (rest := []) (As := [.ref p0b]) (n := 1) hx hb hml hown hts hK hN hZ hW hS hA (c_X1_brokenFields l G A Ω (p0 + 19) p0b p0nd_0 p0nd_1 p0nd_2 p0nd_3 p0b_0 hB_p0b h_p0nd h_p0b) (inDev_o h_p0nd) rfl (good_V ml_X8_231 im_X1_brokenFields se_X1_brokenFields ini_X1 co_X1_brokenFields) (by decide +kernel) ⟨Nat.zero_le _, Nat.zero_le _⟩ hl.1 (Nat.le_of_ble_eq_true rfl) rfl rfl dX8_count_102 (fun r H locs hp hW hS => ?_)
    subst hp
    subst hR
    exact W.iret (v := (f_X1_brokenFields p0nd_3 p0b_0)) hx hb hr (fun t ht hW9 => ⟨⟨(f_X1_brokenFields p0nd_3 p0b_0), Ω, rfl, ⟨rfl, rfl⟩, by rw [oB, ht]; exact hW⟩, hS.F ht⟩) hS.2.2 dX8_count_105
  rw [if_neg c_8] at hR
  by_cases c_10 : x1 = (6 : Int32)
  · rw [if_pos c_10] at hR
    refine lv_tableIn (tgt := 106) hx hb dX8_count_1 (by rw [c_10]; decide) (by rw [c_10]; decide) (by rw [c_10]; rfl) (by decide) ?_
    have i_10 := congrArg Int32.toInt c_10
    refine lv_aload_n hx hb dX8_count_106 rfl (lv_at hl 0 rfl) ?_
    refine o_get hx hb hts hown hK hW (inMBO_o h_p0) rfl ig8 0 (by decide) fl_X8_10 rfl dX8_count_107 ?_
    refine o_get hx hb hts hown hK hW (inTxt_o h_p0t) rfl ig6 1 (by decide) fl_X8_65 rfl dX8_count_110 ?_
    subst hR
    exact W.iret (v := p0t_1) hx hb hr (fun t ht hW9 => ⟨⟨p0t_1, Ω, rfl, ⟨rfl, rfl⟩, by rw [oB, ht]; exact hW⟩, hS.F ht⟩) hS.2.2 dX8_count_113
  rw [if_neg c_10] at hR
  by_cases c_11 : x1 = (7 : Int32)
  · rw [if_pos c_11] at hR
    refine lv_tableIn (tgt := 114) hx hb dX8_count_1 (by rw [c_11]; decide) (by rw [c_11]; decide) (by rw [c_11]; rfl) (by decide) ?_
    have i_11 := congrArg Int32.toInt c_11
    refine lv_aload_n hx hb dX8_count_114 rfl (lv_at hl 0 rfl) ?_
    refine o_get hx hb hts hown hK hW (inMBO_o h_p0) rfl ig8 3 (by decide) fl_X8_35 rfl dX8_count_115 ?_
    refine o_get hx hb hts hown hK hW (inHis_o h_p0h) rfl ig2 2 (by decide) fl_X8_133 rfl dX8_count_118 ?_
    subst hR
    exact W.iret (v := p0h_2) hx hb hr (fun t ht hW9 => ⟨⟨p0h_2, Ω, rfl, ⟨rfl, rfl⟩, by rw [oB, ht]; exact hW⟩, hS.F ht⟩) hS.2.2 dX8_count_121
  rw [if_neg c_11] at hR
  have i_1 := lv_neT c_1 (a := 0) rfl
  have i_3 := lv_neT c_3 (a := 1) rfl
  have i_4 := lv_neT c_4 (a := 2) rfl
  have i_5 := lv_neT c_5 (a := 3) rfl
  have i_7 := lv_neT c_7 (a := 4) rfl
  have i_8 := lv_neT c_8 (a := 5) rfl
  have i_10 := lv_neT c_10 (a := 6) rfl
  have i_11 := lv_neT c_11 (a := 7) rfl
  refine lv_tableOut (tgt := 122) hx hb dX8_count_1 (by omega) (by decide) ?_
  refine lv_iconst (v := (-1 : Int32)) hx hb dX8_count_122 (by decide) ?_
  subst hR
  exact W.iret (v := (-1 : Int32)) hx hb hr (fun t ht hW9 => ⟨⟨(-1 : Int32), Ω, rfl, ⟨rfl, rfl⟩, by rw [oB, ht]; exact hW⟩, hS.F ht⟩) hS.2.2 dX8_count_123
set_option maxHeartbeats 4000000 in
set_option maxRecDepth 100000 in
theorem c_X8_keepV (l : Launch) (G : Gm) (A : Nat → Prop) (Ω : Om) (p0 : Nat) (p0b : Nat) (p0e : Nat) (p0pb : Nat) (p0n_0 : Int32) (p0n_1 : Int32) (p0nd_0 : Fn) (p0nd_1 : Fn) (p0nd_2 : Fn) (p0nd_3 : Fn) (p0nm_0 : Fn) (p0nm_1 : Fn) (p0nm_2 : Fn) (p0nm_3 : Fn) (p0nj_0 : Int32) (p0nj_1 : Fn) (p0nj_2 : Fn) (p0nj_3 : Fn) (p0i_0 : Fn) (p0a_0 : Nat → Option Nat) (p0e_0 : Int32) (p0e_1 : Int32) (p0ed_0 : Fn) (p0ed_1 : Fn) (p0ed_2 : Fn) (p0ed_3 : Fn) (p0em_0 : Fn) (p0em_1 : Fn) (p0em_2 : Fn) (p0em_3 : Fn) (p0ej_0 : Int32) (p0ej_1 : Fn) (p0ej_2 : Fn) (p0ej_3 : Fn) (x1 : Int32) (hbo : (p0b = p0 + 4 ∧ p0pb = p0 + 132) ∨ (p0b = p0 + 132 ∧ p0pb = p0 + 4)) (hq : 0 ≤ x1.toInt ∧ x1.toInt < 2 → p0a_0 x1.toNatClampNeg = some p0e) (he9 : p0 + 145 ≤ p0e ∧ p0e + 15 ≤ p0 + 175) (h_p0 : inMBO G Ω p0 p0b) (h_p0n : inSitO G Ω (p0 + 18) p0n_0 p0n_1) (h_p0nd : inDev G Ω (p0 + 19) p0nd_0 p0nd_1 p0nd_2 p0nd_3) (h_p0nm : inDev G Ω (p0 + 24) p0nm_0 p0nm_1 p0nm_2 p0nm_3) (h_p0nj : inJou G Ω (p0 + 29) p0nj_0 p0nj_1 p0nj_2 p0nj_3) (h_p0i : inImH G Ω (p0 + 126) p0i_0) (h_p0a : inImA G Ω (p0 + 125) p0a_0) (h_p0e : inSitO G Ω p0e p0e_0 p0e_1) (h_p0ed : inDev G Ω (p0e + 1) p0ed_0 p0ed_1 p0ed_2 p0ed_3) (h_p0em : inDev G Ω (p0e + 6) p0em_0 p0em_1 p0em_2 p0em_3) (h_p0ej : inJou G Ω (p0e + 11) p0ej_0 p0ej_1 p0ej_2 p0ej_3) : Met l yX8_keep (wz yX8_keep cX8_keep 2 (some .int)) ({ frames := 3, cells := 0, slots := 0, locals := 103 } : Room) (va_Pc [.ref p0, .int x1] (oS G A Ω)) (va_Qi (fun (r : Int32) (Ω1 : Om) => r = (f_X8_keepV p0n_0 p0n_1 p0nd_0 p0nd_1 p0nd_2 p0nd_3 p0nm_0 p0nm_1 p0nm_2 p0nm_3 p0nj_0 p0nj_1 p0nj_2 p0nj_3 p0i_0 p0e_0 p0e_1 p0ed_0 p0ed_1 p0ed_2 p0ed_3 p0em_0 p0em_1 p0em_2 p0em_3 p0ej_0 p0ej_1 p0ej_2 p0ej_3 x1).1 ∧ inImH G Ω1 (p0 + 126) ((f_X8_keepV p0n_0 p0n_1 p0nd_0 p0nd_1 p0nd_2 p0nd_3 p0nm_0 p0nm_1 p0nm_2 p0nm_3 p0nj_0 p0nj_1 p0nj_2 p0nj_3 p0i_0 p0e_0 p0e_1 p0ed_0 p0ed_1 p0ed_2 p0ed_3 p0em_0 p0em_1 p0em_2 p0em_3 p0ej_0 p0ej_1 p0ej_2 p0ej_3 x1).2.1) ∧ inSitO G Ω1 p0e ((f_X8_keepV p0n_0 p0n_1 p0nd_0 p0nd_1 p0nd_2 p0nd_3 p0nm_0 p0nm_1 p0nm_2 p0nm_3 p0nj_0 p0nj_1 p0nj_2 p0nj_3 p0i_0 p0e_0 p0e_1 p0ed_0 p0ed_1 p0ed_2 p0ed_3 p0em_0 p0em_1 p0em_2 p0em_3 p0ej_0 p0ej_1 p0ej_2 p0ej_3 x1).2.2.1) ((f_X8_keepV p0n_0 p0n_1 p0nd_0 p0nd_1 p0nd_2 p0nd_3 p0nm_0 p0nm_1 p0nm_2 p0nm_3 p0nj_0 p0nj_1 p0nj_2 p0nj_3 p0i_0 p0e_0 p0e_1 p0ed_0 p0ed_1 p0ed_2 p0ed_3 p0em_0 p0em_1 p0em_2 p0em_3 p0ej_0 p0ej_1 p0ej_2 p0ej_3 x1).2.2.2.1) ∧ inDev G Ω1 (p0e + 1) ((f_X8_keepV p0n_0 p0n_1 p0nd_0 p0nd_1 p0nd_2 p0nd_3 p0nm_0 p0nm_1 p0nm_2 p0nm_3 p0nj_0 p0nj_1 p0nj_2 p0nj_3 p0i_0 p0e_0 p0e_1 p0ed_0 p0ed_1 p0ed_2 p0ed_3 p0em_0 p0em_1 p0em_2 p0em_3 p0ej_0 p0ej_1 p0ej_2 p0ej_3 x1).2.2.2.2.1) ((f_X8_keepV p0n_0 p0n_1 p0nd_0 p0nd_1 p0nd_2 p0nd_3 p0nm_0 p0nm_1 p0nm_2 p0nm_3 p0nj_0 p0nj_1 p0nj_2 p0nj_3 p0i_0 p0e_0 p0e_1 p0ed_0 p0ed_1 p0ed_2 p0ed_3 p0em_0 p0em_1 p0em_2 p0em_3 p0ej_0 p0ej_1 p0ej_2 p0ej_3 x1).2.2.2.2.2.1) ((f_X8_keepV p0n_0 p0n_1 p0nd_0 p0nd_1 p0nd_2 p0nd_3 p0nm_0 p0nm_1 p0nm_2 p0nm_3 p0nj_0 p0nj_1 p0nj_2 p0nj_3 p0i_0 p0e_0 p0e_1 p0ed_0 p0ed_1 p0ed_2 p0ed_3 p0em_0 p0em_1 p0em_2 p0em_3 p0ej_0 p0ej_1 p0ej_2 p0ej_3 x1).2.2.2.2.2.2.1) ((f_X8_keepV p0n_0 p0n_1 p0nd_0 p0nd_1 p0nd_2 p0nd_3 p0nm_0 p0nm_1 p0nm_2 p0nm_3 p0nj_0 p0nj_1 p0nj_2 p0nj_3 p0i_0 p0e_0 p0e_1 p0ed_0 p0ed_1 p0ed_2 p0ed_3 p0em_0 p0em_1 p0em_2 p0em_3 p0ej_0 p0ej_1 p0ej_2 p0ej_3 x1).2.2.2.2.2.2.2.1) ∧ inDev G Ω1 (p0e + 6) ((f_X8_keepV p0n_0 p0n_1 p0nd_0 p0nd_1 p0nd_2 p0nd_3 p0nm_0 p0nm_1 p0nm_2 p0nm_3 p0nj_0 p0nj_1 p0nj_2 p0nj_3 p0i_0 p0e_0 p0e_1 p0ed_0 p0ed_1 p0ed_2 p0ed_3 p0em_0 p0em_1 p0em_2 p0em_3 p0ej_0 p0ej_1 p0ej_2 p0ej_3 x1).2.2.2.2.2.2.2.2.1) ((f_X8_keepV p0n_0 p0n_1 p0nd_0 p0nd_1 p0nd_2 p0nd_3 p0nm_0 p0nm_1 p0nm_2 p0nm_3 p0nj_0 p0nj_1 p0nj_2 p0nj_3 p0i_0 p0e_0 p0e_1 p0ed_0 p0ed_1 p0ed_2 p0ed_3 p0em_0 p0em_1 p0em_2 p0em_3 p0ej_0 p0ej_1 p0ej_2 p0ej_3 x1).2.2.2.2.2.2.2.2.2.1) ((f_X8_keepV p0n_0 p0n_1 p0nd_0 p0nd_1 p0nd_2 p0nd_3 p0nm_0 p0nm_1 p0nm_2 p0nm_3 p0nj_0 p0nj_1 p0nj_2 p0nj_3 p0i_0 p0e_0 p0e_1 p0ed_0 p0ed_1 p0ed_2 p0ed_3 p0em_0 p0em_1 p0em_2 p0em_3 p0ej_0 p0ej_1 p0ej_2 p0ej_3 x1).2.2.2.2.2.2.2.2.2.2.1) ((f_X8_keepV p0n_0 p0n_1 p0nd_0 p0nd_1 p0nd_2 p0nd_3 p0nm_0 p0nm_1 p0nm_2 p0nm_3 p0nj_0 p0nj_1 p0nj_2 p0nj_3 p0i_0 p0e_0 p0e_1 p0ed_0 p0ed_1 p0ed_2 p0ed_3 p0em_0 p0em_1 p0em_2 p0em_3 p0ej_0 p0ej_1 p0ej_2 p0ej_3 x1).2.2.2.2.2.2.2.2.2.2.2.1) ∧ inJou G Ω1 (p0e + 11) ((f_X8_keepV p0n_0 p0n_1 p0nd_0 p0nd_1 p0nd_2 p0nd_3 p0nm_0 p0nm_1 p0nm_2 p0nm_3 p0nj_0 p0nj_1 p0nj_2 p0nj_3 p0i_0 p0e_0 p0e_1 p0ed_0 p0ed_1 p0ed_2 p0ed_3 p0em_0 p0em_1 p0em_2 p0em_3 p0ej_0 p0ej_1 p0ej_2 p0ej_3 x1).2.2.2.2.2.2.2.2.2.2.2.2.1) ((f_X8_keepV p0n_0 p0n_1 p0nd_0 p0nd_1 p0nd_2 p0nd_3 p0nm_0 p0nm_1 p0nm_2 p0nm_3 p0nj_0 p0nj_1 p0nj_2 p0nj_3 p0i_0 p0e_0 p0e_1 p0ed_0 p0ed_1 p0ed_2 p0ed_3 p0em_0 p0em_1 p0em_2 p0em_3 p0ej_0 p0ej_1 p0ej_2 p0ej_3 x1).2.2.2.2.2.2.2.2.2.2.2.2.2.1) ((f_X8_keepV p0n_0 p0n_1 p0nd_0 p0nd_1 p0nd_2 p0nd_3 p0nm_0 p0nm_1 p0nm_2 p0nm_3 p0nj_0 p0nj_1 p0nj_2 p0nj_3 p0i_0 p0e_0 p0e_1 p0ed_0 p0ed_1 p0ed_2 p0ed_3 p0em_0 p0em_1 p0em_2 p0em_3 p0ej_0 p0ej_1 p0ej_2 p0ej_3 x1).2.2.2.2.2.2.2.2.2.2.2.2.2.2.1) ((f_X8_keepV p0n_0 p0n_1 p0nd_0 p0nd_1 p0nd_2 p0nd_3 p0nm_0 p0nm_1 p0nm_2 p0nm_3 p0nj_0 p0nj_1 p0nj_2 p0nj_3 p0i_0 p0e_0 p0e_1 p0ed_0 p0ed_1 p0ed_2 p0ed_3 p0em_0 p0em_1 p0em_2 p0em_3 p0ej_0 p0ej_1 p0ej_2 p0ej_3 x1).2.2.2.2.2.2.2.2.2.2.2.2.2.2.2) ∧ (∀ q : Nat, (q < (p0 + 126) ∨ (p0 + 126) + 1 ≤ q) → (q < p0e ∨ p0e + 1 ≤ q) → (q < (p0e + 1) ∨ (p0e + 1) + 5 ≤ q) → (q < (p0e + 6) ∨ (p0e + 6) + 5 ≤ q) → (q < (p0e + 11) ∨ (p0e + 11) + 4 ≤ q) → Ω1 q = Ω q)) (oB G A) A) 0 0 A := by
  refine Met.ofW (cc := cX8_keep) (maxL := 2) (ret := (some .int)) (by decide) rfl ?_
  intro p e s m args below meth c s₁ B hml hv
  obtain ⟨rfl, hW, hK, hN, hZ⟩ := hv
  have hx := B.exec
  have hb := B.bytes
  have hr := B.returns
  have hts : ∀ w ∈ gt, w.before _ s = true := fun w hw => atoms_spec (ws := wz yX8_keep cX8_keep 2 (some .int)) B.pre w (List.mem_cons_of_mem _ hw)
  have hown : s.vm.findClass RX8 = some m.cls := findClass_of_methodNamed B.named
  have hlocks := B.notSynchronized
  have hA : ∀ q, A q → A q := fun _ h => h
  have hS : va_S A s.heap s.heap [] := va_S.rf
  have hS0 := hS
  have hl := lv_entry ([.ref p0, .int x1]) (n := 2) (Nat.le_of_ble_eq_true rfl)
  rw [lg_entry_eq]
  generalize (lg_sl ([.ref p0, .int x1]) ++ List.replicate (2 - (lg_sl ([.ref p0, .int x1])).length) Slot.unset).toArray = ls at hl ⊢
  have hl : lv_has ls 2 [(0, .ref p0), (1, .int x1)] := hl
  have hE : ∀ q : Nat, (q < (p0 + 126) ∨ (p0 + 126) + 1 ≤ q) → (q < p0e ∨ p0e + 1 ≤ q) → (q < (p0e + 1) ∨ (p0e + 1) + 5 ≤ q) → (q < (p0e + 6) ∨ (p0e + 6) + 5 ≤ q) → (q < (p0e + 11) ∨ (p0e + 11) + 4 ≤ q) → Ω q = Ω q := by intros; rfl
  generalize hR : (f_X8_keepV p0n_0 p0n_1 p0nd_0 p0nd_1 p0nd_2 p0nd_3 p0nm_0 p0nm_1 p0nm_2 p0nm_3 p0nj_0 p0nj_1 p0nj_2 p0nj_3 p0i_0 p0e_0 p0e_1 p0ed_0 p0ed_1 p0ed_2 p0ed_3 p0em_0 p0em_1 p0em_2 p0em_3 p0ej_0 p0ej_1 p0ej_2 p0ej_3 x1) = R
  rw [f_X8_keepV] at hR
  refine lv_iload_n hx hb dX8_keep_0 rfl (lv_at hl 1 rfl) ?_
  refine lv_iconst (v := (2 : Int32)) hx hb dX8_keep_1 (by decide) ?_
  have j_1 : (2 : Int32).toInt = 2 := by decide
  refine o_SiR (rest := []) (As := [.int x1, .int (2 : Int32)]) (n := 2) hx hb hml hown hts hK hN hZ hW hS hA (c_X8_isWithin l G A Ω x1 (2 : Int32)) ml_X8_61 st_X8_isWithin ini_X8 co_X8_isWithin (by decide +kernel) ⟨Nat.zero_le _, Nat.zero_le _⟩ hl.1 (Nat.le_of_ble_eq_true rfl) rfl rfl dX8_keep_2 (fun r H locs hp hW hS => ?_)
  obtain ⟨rfl, hz_2⟩ := hp
  have j_4 : (0 : Int32).toInt = 0 := by decide
  refine lv_if_ne (tgt := 10) hx hb dX8_keep_5 (by decide) (fun c_3 => ?_) (fun c_3 => ?_)
  · rw [if_neg c_3] at hR
    have i_3 := rne c_3
    have b_c_3 := rIW c_3
    refine lv_aload_n hx hb dX8_keep_10 rfl (lv_at hl 0 rfl) ?_
    refine o_get hx hb hts hown hK hW (inMBO_o h_p0) rfl ig8 4 (by decide) fl_X8_39 rfl dX8_keep_11 ?_
    refine lv_iload_n hx hb dX8_keep_14 rfl (lv_at hl 1 rfl) ?_
    refine o_aldq2 hx hb hK hW (inImA_a0 h_p0a) (hq (by omega)) (vp_in_iff.mpr ⟨by omega, by omega⟩) dX8_keep_15 ?_
    refine lv_aload_n hx hb dX8_keep_16 rfl (lv_at hl 0 rfl) ?_
    refine o_get hx hb hts hown hK hW (inMBO_o h_p0) rfl ig8 2 (by decide) fl_X8_28 rfl dX8_keep_17 ?_
    refine o_Vv (rest := []) (As := [.ref (p0 + 18)]) (n := 1) hx hb hml hown hts hK hN hZ hW hS hA (c_X5_copyFrom l G A Ω p0e (p0 + 18) p0e_0 p0e_1 p0ed_0 p0ed_1 p0ed_2 p0ed_3 p0em_0 p0em_1 p0em_2 p0em_3 p0ej_0 p0ej_1 p0ej_2 p0ej_3 p0n_0 p0n_1 p0nd_0 p0nd_1 p0nd_2 p0nd_3 p0nm_0 p0nm_1 p0nm_2 p0nm_3 p0nj_0 p0nj_1 p0nj_2 p0nj_3 (by omega) h_p0e h_p0ed h_p0em h_p0ej h_p0n h_p0nd h_p0nm h_p0nj) (inSitO_o h_p0e) rfl (good_V ml_X8_225 im_X5_copyFrom se_X5_copyFrom ini_X5 co_X5_copyFrom) (by decide +kernel) ⟨Nat.zero_le _, Nat.zero_le _⟩ hl.1 (Nat.le_of_ble_eq_true rfl) rfl rfl dX8_keep_20 (fun Ω_5 H locs hp hW hS => ?_)
    obtain ⟨h_p0e, h_p0ed, h_p0em, h_p0ej, hF_5⟩ := hp
    have h_p0 := h_p0.keep (fun q h1 h2 => hF_5 q (by omega) (by omega) (by omega) (by omega))
    have h_p0n := h_p0n.keep (fun q h1 h2 => hF_5 q (by omega) (by omega) (by omega) (by omega))
    have h_p0nd := h_p0nd.keep (fun q h1 h2 => hF_5 q (by omega) (by omega) (by omega) (by omega))
    have h_p0nm := h_p0nm.keep (fun q h1 h2 => hF_5 q (by omega) (by omega) (by omega) (by omega))
    have h_p0nj := h_p0nj.keep (fun q h1 h2 => hF_5 q (by omega) (by omega) (by omega) (by omega))
    have h_p0i := h_p0i.keep (fun q h1 h2 => hF_5 q (by omega) (by omega) (by omega) (by omega))
    have h_p0a := h_p0a.keep (fun q h1 h2 => hF_5 q (by omega) (by omega) (by omega) (by omega))
    have hE : ∀ q : Nat, (q < (p0 + 126) ∨ (p0 + 126) + 1 ≤ q) → (q < p0e ∨ p0e + 1 ≤ q) → (q < (p0e + 1) ∨ (p0e + 1) + 5 ≤ q) → (q < (p0e + 6) ∨ (p0e + 6) + 5 ≤ q) → (q < (p0e + 11) ∨ (p0e + 11) + 4 ≤ q) → Ω_5 q = Ω q := fun q g0 g1 g2 g3 g4 => (hF_5 q (by omega) (by omega) (by omega) (by omega)).trans (hE q g0 g1 g2 g3 g4)
    generalize (f_X5_copyFrom p0ed_0 p0ed_1 p0ed_2 p0ed_3 p0em_0 p0em_1 p0em_2 p0em_3 p0ej_1 p0ej_2 p0ej_3 p0n_0 p0n_1 p0nd_0 p0nd_1 p0nd_2 p0nd_3 p0nm_0 p0nm_1 p0nm_2 p0nm_3 p0nj_0 p0nj_1 p0nj_2 p0nj_3) = Z_5 at h_p0e h_p0ed h_p0em h_p0ej hR
    obtain ⟨z5_0, z5_1, z5_2, z5_3, z5_4, z5_5, z5_6, z5_7, z5_8, z5_9, z5_10, z5_11, z5_12, z5_13⟩ := Z_5
    dsimp only at h_p0e h_p0ed h_p0em h_p0ej hR
    rw [f_X8_keepV_C23] at hR
    refine lv_aload_n hx hb dX8_keep_23 rfl (lv_at hl 0 rfl) ?_
    refine o_get hx hb hts hown hK hW (inMBO_o h_p0) rfl ig8 5 (by decide) fl_X8_43 rfl dX8_keep_24 ?_
    refine lv_iload_n hx hb dX8_keep_27 rfl (lv_at hl 1 rfl) ?_
    refine lv_iconst (v := (1 : Int32)) hx hb dX8_keep_28 (by decide) ?_
    refine wImH_0 hx hb hK hW hS hA h_p0i (vp_in_iff.mpr ⟨by omega, by omega⟩) dX8_keep_29 (fun Ω_6 H locs h_p0i hF_6 hW hS => ?_)
    have h_p0 := h_p0.keep (fun q h1 h2 => hF_6 q (by omega))
    have h_p0n := h_p0n.keep (fun q h1 h2 => hF_6 q (by omega))
    have h_p0nd := h_p0nd.keep (fun q h1 h2 => hF_6 q (by omega))
    have h_p0nm := h_p0nm.keep (fun q h1 h2 => hF_6 q (by omega))
    have h_p0nj := h_p0nj.keep (fun q h1 h2 => hF_6 q (by omega))
    have h_p0a := h_p0a.keep (fun q h1 h2 => hF_6 q (by omega))
    have h_p0e := h_p0e.keep (fun q h1 h2 => hF_6 q (by omega))
    have h_p0ed := h_p0ed.keep (fun q h1 h2 => hF_6 q (by omega))
    have h_p0em := h_p0em.keep (fun q h1 h2 => hF_6 q (by omega))
    have h_p0ej := h_p0ej.keep (fun q h1 h2 => hF_6 q (by omega))
    have hE : ∀ q : Nat, (q < (p0 + 126) ∨ (p0 + 126) + 1 ≤ q) → (q < p0e ∨ p0e + 1 ≤ q) → (q < (p0e + 1) ∨ (p0e + 1) + 5 ≤ q) → (q < (p0e + 6) ∨ (p0e + 6) + 5 ≤ q) → (q < (p0e + 11) ∨ (p0e + 11) + 4 ≤ q) → Ω_6 q = Ω q := fun q g0 g1 g2 g3 g4 => (hF_6 q (by omega)).trans (hE q g0 g1 g2 g3 g4)
    refine lv_aload_n hx hb dX8_keep_30 rfl (lv_at hl 0 rfl) ?_
    refine o_get hx hb hts hown hK hW (inMBO_o h_p0) rfl ig8 2 (by decide) fl_X8_28 rfl dX8_keep_31 ?_
    refine o_get hx hb hts hown hK hW (inSitO_o h_p0n) rfl ig5 2 (by decide) fl_X8_92 rfl dX8_keep_34 ?_
    refine o_get hx hb hts hown hK hW (inJou_o h_p0nj) rfl ig3 0 (by decide) fl_X8_96 rfl dX8_keep_37 ?_
    subst hR
    exact W.iret (v := p0nj_0) hx hb hr (fun t ht hW9 => ⟨⟨p0nj_0, Ω_6, rfl, ⟨rfl, h_p0i, h_p0e, h_p0ed, h_p0em, h_p0ej, hE⟩, by rw [oB, ht]; exact hW⟩, hS.F ht⟩) hS.2.2 dX8_keep_40
  · rw [if_pos c_3] at hR
    have i_3 := congrArg Int32.toInt c_3
    refine lv_iconst (v := (-1 : Int32)) hx hb dX8_keep_8 (by decide) ?_
    subst hR
    exact W.iret (v := (-1 : Int32)) hx hb hr (fun t ht hW9 => ⟨⟨(-1 : Int32), Ω, rfl, ⟨rfl, h_p0i, h_p0e, h_p0ed, h_p0em, h_p0ej, hE⟩, by rw [oB, ht]; exact hW⟩, hS.F ht⟩) hS.2.2 dX8_keep_9
set_option maxHeartbeats 4000000 in
set_option maxRecDepth 100000 in
theorem c_X8_backV (l : Launch) (G : Gm) (A : Nat → Prop) (Ω : Om) (p0 : Nat) (p0b : Nat) (p0e : Nat) (p0pb : Nat) (p0n_0 : Int32) (p0n_1 : Int32) (p0nd_0 : Fn) (p0nd_1 : Fn) (p0nd_2 : Fn) (p0nd_3 : Fn) (p0nm_0 : Fn) (p0nm_1 : Fn) (p0nm_2 : Fn) (p0nm_3 : Fn) (p0nj_0 : Int32) (p0nj_1 : Fn) (p0nj_2 : Fn) (p0nj_3 : Fn) (p0h_0 : Nat → Sit) (p0h_1 : Int32) (p0h_2 : Int32) (p0i_0 : Fn) (p0a_0 : Nat → Option Nat) (p0e_0 : Int32) (p0e_1 : Int32) (p0ed_0 : Fn) (p0ed_1 : Fn) (p0ed_2 : Fn) (p0ed_3 : Fn) (p0em_0 : Fn) (p0em_1 : Fn) (p0em_2 : Fn) (p0em_3 : Fn) (p0ej_0 : Int32) (p0ej_1 : Fn) (p0ej_2 : Fn) (p0ej_3 : Fn) (x1 : Int32) (hbo : (p0b = p0 + 4 ∧ p0pb = p0 + 132) ∨ (p0b = p0 + 132 ∧ p0pb = p0 + 4)) (hq : 0 ≤ x1.toInt ∧ x1.toInt < 2 → p0a_0 x1.toNatClampNeg = some p0e) (he9 : p0 + 145 ≤ p0e ∧ p0e + 15 ≤ p0 + 175) (h_p0 : inMBO G Ω p0 p0b) (h_p0n : inSitO G Ω (p0 + 18) p0n_0 p0n_1) (h_p0nd : inDev G Ω (p0 + 19) p0nd_0 p0nd_1 p0nd_2 p0nd_3) (h_p0nm : inDev G Ω (p0 + 24) p0nm_0 p0nm_1 p0nm_2 p0nm_3) (h_p0nj : inJou G Ω (p0 + 29) p0nj_0 p0nj_1 p0nj_2 p0nj_3) (h_p0h : inHis G Ω (p0 + 33) p0h_0 p0h_1 p0h_2) (h_p0i : inImH G Ω (p0 + 126) p0i_0) (h_p0a : inImA G Ω (p0 + 125) p0a_0) (h_p0e : inSitO G Ω p0e p0e_0 p0e_1) (h_p0ed : inDev G Ω (p0e + 1) p0ed_0 p0ed_1 p0ed_2 p0ed_3) (h_p0em : inDev G Ω (p0e + 6) p0em_0 p0em_1 p0em_2 p0em_3) (h_p0ej : inJou G Ω (p0e + 11) p0ej_0 p0ej_1 p0ej_2 p0ej_3) : Met l yX8_back (wz yX8_back cX8_back 2 (some .int)) ({ frames := 3, cells := 0, slots := 0, locals := 103 } : Room) (va_Pc [.ref p0, .int x1] (oS G A Ω)) (va_Qi (fun (r : Int32) (Ω1 : Om) => r = (f_X8_backV p0n_0 p0n_1 p0nd_0 p0nd_1 p0nd_2 p0nd_3 p0nm_0 p0nm_1 p0nm_2 p0nm_3 p0nj_0 p0nj_1 p0nj_2 p0nj_3 p0h_2 p0i_0 p0e_0 p0e_1 p0ed_0 p0ed_1 p0ed_2 p0ed_3 p0em_0 p0em_1 p0em_2 p0em_3 p0ej_0 p0ej_1 p0ej_2 p0ej_3 x1).1 ∧ inSitO G Ω1 (p0 + 18) ((f_X8_backV p0n_0 p0n_1 p0nd_0 p0nd_1 p0nd_2 p0nd_3 p0nm_0 p0nm_1 p0nm_2 p0nm_3 p0nj_0 p0nj_1 p0nj_2 p0nj_3 p0h_2 p0i_0 p0e_0 p0e_1 p0ed_0 p0ed_1 p0ed_2 p0ed_3 p0em_0 p0em_1 p0em_2 p0em_3 p0ej_0 p0ej_1 p0ej_2 p0ej_3 x1).2.1) ((f_X8_backV p0n_0 p0n_1 p0nd_0 p0nd_1 p0nd_2 p0nd_3 p0nm_0 p0nm_1 p0nm_2 p0nm_3 p0nj_0 p0nj_1 p0nj_2 p0nj_3 p0h_2 p0i_0 p0e_0 p0e_1 p0ed_0 p0ed_1 p0ed_2 p0ed_3 p0em_0 p0em_1 p0em_2 p0em_3 p0ej_0 p0ej_1 p0ej_2 p0ej_3 x1).2.2.1) ∧ inDev G Ω1 (p0 + 19) ((f_X8_backV p0n_0 p0n_1 p0nd_0 p0nd_1 p0nd_2 p0nd_3 p0nm_0 p0nm_1 p0nm_2 p0nm_3 p0nj_0 p0nj_1 p0nj_2 p0nj_3 p0h_2 p0i_0 p0e_0 p0e_1 p0ed_0 p0ed_1 p0ed_2 p0ed_3 p0em_0 p0em_1 p0em_2 p0em_3 p0ej_0 p0ej_1 p0ej_2 p0ej_3 x1).2.2.2.1) ((f_X8_backV p0n_0 p0n_1 p0nd_0 p0nd_1 p0nd_2 p0nd_3 p0nm_0 p0nm_1 p0nm_2 p0nm_3 p0nj_0 p0nj_1 p0nj_2 p0nj_3 p0h_2 p0i_0 p0e_0 p0e_1 p0ed_0 p0ed_1 p0ed_2 p0ed_3 p0em_0 p0em_1 p0em_2 p0em_3 p0ej_0 p0ej_1 p0ej_2 p0ej_3 x1).2.2.2.2.1) ((f_X8_backV p0n_0 p0n_1 p0nd_0 p0nd_1 p0nd_2 p0nd_3 p0nm_0 p0nm_1 p0nm_2 p0nm_3 p0nj_0 p0nj_1 p0nj_2 p0nj_3 p0h_2 p0i_0 p0e_0 p0e_1 p0ed_0 p0ed_1 p0ed_2 p0ed_3 p0em_0 p0em_1 p0em_2 p0em_3 p0ej_0 p0ej_1 p0ej_2 p0ej_3 x1).2.2.2.2.2.1) ((f_X8_backV p0n_0 p0n_1 p0nd_0 p0nd_1 p0nd_2 p0nd_3 p0nm_0 p0nm_1 p0nm_2 p0nm_3 p0nj_0 p0nj_1 p0nj_2 p0nj_3 p0h_2 p0i_0 p0e_0 p0e_1 p0ed_0 p0ed_1 p0ed_2 p0ed_3 p0em_0 p0em_1 p0em_2 p0em_3 p0ej_0 p0ej_1 p0ej_2 p0ej_3 x1).2.2.2.2.2.2.1) ∧ inDev G Ω1 (p0 + 24) ((f_X8_backV p0n_0 p0n_1 p0nd_0 p0nd_1 p0nd_2 p0nd_3 p0nm_0 p0nm_1 p0nm_2 p0nm_3 p0nj_0 p0nj_1 p0nj_2 p0nj_3 p0h_2 p0i_0 p0e_0 p0e_1 p0ed_0 p0ed_1 p0ed_2 p0ed_3 p0em_0 p0em_1 p0em_2 p0em_3 p0ej_0 p0ej_1 p0ej_2 p0ej_3 x1).2.2.2.2.2.2.2.1) ((f_X8_backV p0n_0 p0n_1 p0nd_0 p0nd_1 p0nd_2 p0nd_3 p0nm_0 p0nm_1 p0nm_2 p0nm_3 p0nj_0 p0nj_1 p0nj_2 p0nj_3 p0h_2 p0i_0 p0e_0 p0e_1 p0ed_0 p0ed_1 p0ed_2 p0ed_3 p0em_0 p0em_1 p0em_2 p0em_3 p0ej_0 p0ej_1 p0ej_2 p0ej_3 x1).2.2.2.2.2.2.2.2.1) ((f_X8_backV p0n_0 p0n_1 p0nd_0 p0nd_1 p0nd_2 p0nd_3 p0nm_0 p0nm_1 p0nm_2 p0nm_3 p0nj_0 p0nj_1 p0nj_2 p0nj_3 p0h_2 p0i_0 p0e_0 p0e_1 p0ed_0 p0ed_1 p0ed_2 p0ed_3 p0em_0 p0em_1 p0em_2 p0em_3 p0ej_0 p0ej_1 p0ej_2 p0ej_3 x1).2.2.2.2.2.2.2.2.2.1) ((f_X8_backV p0n_0 p0n_1 p0nd_0 p0nd_1 p0nd_2 p0nd_3 p0nm_0 p0nm_1 p0nm_2 p0nm_3 p0nj_0 p0nj_1 p0nj_2 p0nj_3 p0h_2 p0i_0 p0e_0 p0e_1 p0ed_0 p0ed_1 p0ed_2 p0ed_3 p0em_0 p0em_1 p0em_2 p0em_3 p0ej_0 p0ej_1 p0ej_2 p0ej_3 x1).2.2.2.2.2.2.2.2.2.2.1) ∧ inJou G Ω1 (p0 + 29) ((f_X8_backV p0n_0 p0n_1 p0nd_0 p0nd_1 p0nd_2 p0nd_3 p0nm_0 p0nm_1 p0nm_2 p0nm_3 p0nj_0 p0nj_1 p0nj_2 p0nj_3 p0h_2 p0i_0 p0e_0 p0e_1 p0ed_0 p0ed_1 p0ed_2 p0ed_3 p0em_0 p0em_1 p0em_2 p0em_3 p0ej_0 p0ej_1 p0ej_2 p0ej_3 x1).2.2.2.2.2.2.2.2.2.2.2.1) ((f_X8_backV p0n_0 p0n_1 p0nd_0 p0nd_1 p0nd_2 p0nd_3 p0nm_0 p0nm_1 p0nm_2 p0nm_3 p0nj_0 p0nj_1 p0nj_2 p0nj_3 p0h_2 p0i_0 p0e_0 p0e_1 p0ed_0 p0ed_1 p0ed_2 p0ed_3 p0em_0 p0em_1 p0em_2 p0em_3 p0ej_0 p0ej_1 p0ej_2 p0ej_3 x1).2.2.2.2.2.2.2.2.2.2.2.2.1) ((f_X8_backV p0n_0 p0n_1 p0nd_0 p0nd_1 p0nd_2 p0nd_3 p0nm_0 p0nm_1 p0nm_2 p0nm_3 p0nj_0 p0nj_1 p0nj_2 p0nj_3 p0h_2 p0i_0 p0e_0 p0e_1 p0ed_0 p0ed_1 p0ed_2 p0ed_3 p0em_0 p0em_1 p0em_2 p0em_3 p0ej_0 p0ej_1 p0ej_2 p0ej_3 x1).2.2.2.2.2.2.2.2.2.2.2.2.2.1) ((f_X8_backV p0n_0 p0n_1 p0nd_0 p0nd_1 p0nd_2 p0nd_3 p0nm_0 p0nm_1 p0nm_2 p0nm_3 p0nj_0 p0nj_1 p0nj_2 p0nj_3 p0h_2 p0i_0 p0e_0 p0e_1 p0ed_0 p0ed_1 p0ed_2 p0ed_3 p0em_0 p0em_1 p0em_2 p0em_3 p0ej_0 p0ej_1 p0ej_2 p0ej_3 x1).2.2.2.2.2.2.2.2.2.2.2.2.2.2.1) ∧ inHis G Ω1 (p0 + 33) p0h_0 p0h_1 ((f_X8_backV p0n_0 p0n_1 p0nd_0 p0nd_1 p0nd_2 p0nd_3 p0nm_0 p0nm_1 p0nm_2 p0nm_3 p0nj_0 p0nj_1 p0nj_2 p0nj_3 p0h_2 p0i_0 p0e_0 p0e_1 p0ed_0 p0ed_1 p0ed_2 p0ed_3 p0em_0 p0em_1 p0em_2 p0em_3 p0ej_0 p0ej_1 p0ej_2 p0ej_3 x1).2.2.2.2.2.2.2.2.2.2.2.2.2.2.2) ∧ (∀ q : Nat, (q < (p0 + 18) ∨ (p0 + 18) + 1 ≤ q) → (q < (p0 + 19) ∨ (p0 + 19) + 5 ≤ q) → (q < (p0 + 24) ∨ (p0 + 24) + 5 ≤ q) → (q < (p0 + 29) ∨ (p0 + 29) + 4 ≤ q) → (q < (p0 + 33) ∨ (p0 + 33) + 92 ≤ q) → Ω1 q = Ω q)) (oB G A) A) 0 0 A := by
  refine Met.ofW (cc := cX8_back) (maxL := 2) (ret := (some .int)) (by decide) rfl ?_
  intro p e s m args below meth c s₁ B hml hv
  obtain ⟨rfl, hW, hK, hN, hZ⟩ := hv
  have hx := B.exec
  have hb := B.bytes
  have hr := B.returns
  have hts : ∀ w ∈ gt, w.before _ s = true := fun w hw => atoms_spec (ws := wz yX8_back cX8_back 2 (some .int)) B.pre w (List.mem_cons_of_mem _ hw)
  have hown : s.vm.findClass RX8 = some m.cls := findClass_of_methodNamed B.named
  have hlocks := B.notSynchronized
  have hA : ∀ q, A q → A q := fun _ h => h
  have hS : va_S A s.heap s.heap [] := va_S.rf
  have hS0 := hS
  have hl := lv_entry ([.ref p0, .int x1]) (n := 2) (Nat.le_of_ble_eq_true rfl)
  rw [lg_entry_eq]
  generalize (lg_sl ([.ref p0, .int x1]) ++ List.replicate (2 - (lg_sl ([.ref p0, .int x1])).length) Slot.unset).toArray = ls at hl ⊢
  have hl : lv_has ls 2 [(0, .ref p0), (1, .int x1)] := hl
  have hE : ∀ q : Nat, (q < (p0 + 18) ∨ (p0 + 18) + 1 ≤ q) → (q < (p0 + 19) ∨ (p0 + 19) + 5 ≤ q) → (q < (p0 + 24) ∨ (p0 + 24) + 5 ≤ q) → (q < (p0 + 29) ∨ (p0 + 29) + 4 ≤ q) → (q < (p0 + 33) ∨ (p0 + 33) + 92 ≤ q) → Ω q = Ω q := by intros; rfl
  generalize hR : (f_X8_backV p0n_0 p0n_1 p0nd_0 p0nd_1 p0nd_2 p0nd_3 p0nm_0 p0nm_1 p0nm_2 p0nm_3 p0nj_0 p0nj_1 p0nj_2 p0nj_3 p0h_2 p0i_0 p0e_0 p0e_1 p0ed_0 p0ed_1 p0ed_2 p0ed_3 p0em_0 p0em_1 p0em_2 p0em_3 p0ej_0 p0ej_1 p0ej_2 p0ej_3 x1) = R
  rw [f_X8_backV] at hR
  refine lv_iload_n hx hb dX8_back_0 rfl (lv_at hl 1 rfl) ?_
  refine lv_iconst (v := (2 : Int32)) hx hb dX8_back_1 (by decide) ?_
  have j_1 : (2 : Int32).toInt = 2 := by decide
  refine o_SiR (rest := []) (As := [.int x1, .int (2 : Int32)]) (n := 2) hx hb hml hown hts hK hN hZ hW hS hA (c_X8_isWithin l G A Ω x1 (2 : Int32)) ml_X8_61 st_X8_isWithin ini_X8 co_X8_isWithin (by decide +kernel) ⟨Nat.zero_le _, Nat.zero_le _⟩ hl.1 (Nat.le_of_ble_eq_true rfl) rfl rfl dX8_back_2 (fun r H locs hp hW hS => ?_)
  obtain ⟨rfl, hz_2⟩ := hp
  have j_4 : (0 : Int32).toInt = 0 := by decide
  refine lv_if_ne (tgt := 10) hx hb dX8_back_5 (by decide) (fun c_3 => ?_) (fun c_3 => ?_)
  · rw [if_neg c_3] at hR
    have i_3 := rne c_3
    have b_c_3 := rIW c_3
    refine lv_aload_n hx hb dX8_back_10 rfl (lv_at hl 0 rfl) ?_
    refine o_get hx hb hts hown hK hW (inMBO_o h_p0) rfl ig8 5 (by decide) fl_X8_43 rfl dX8_back_11 ?_
    refine lv_iload_n hx hb dX8_back_14 rfl (lv_at hl 1 rfl) ?_
    refine o_zald hx hb hK hW (inImH_a0 h_p0i) (vp_in_iff.mpr ⟨by omega, by omega⟩) dX8_back_15 ?_
    refine lv_if_ne (tgt := 22) hx hb dX8_back_16 (by decide) (fun c_5 => ?_) (fun c_5 => ?_)
    · rw [if_neg c_5] at hR
      have i_5 := rne c_5
      refine lv_aload_n hx hb dX8_back_22 rfl (lv_at hl 0 rfl) ?_
      refine o_get hx hb hts hown hK hW (inMBO_o h_p0) rfl ig8 2 (by decide) fl_X8_28 rfl dX8_back_23 ?_
      refine lv_aload_n hx hb dX8_back_26 rfl (lv_at hl 0 rfl) ?_
      refine o_get hx hb hts hown hK hW (inMBO_o h_p0) rfl ig8 4 (by decide) fl_X8_39 rfl dX8_back_27 ?_
      refine lv_iload_n hx hb dX8_back_30 rfl (lv_at hl 1 rfl) ?_
      refine o_aldq2 hx hb hK hW (inImA_a0 h_p0a) (hq (by omega)) (vp_in_iff.mpr ⟨by omega, by omega⟩) dX8_back_31 ?_
      refine o_Vv (rest := []) (As := [.ref p0e]) (n := 1) hx hb hml hown hts hK hN hZ hW hS hA (c_X5_copyFrom l G A Ω (p0 + 18) p0e p0n_0 p0n_1 p0nd_0 p0nd_1 p0nd_2 p0nd_3 p0nm_0 p0nm_1 p0nm_2 p0nm_3 p0nj_0 p0nj_1 p0nj_2 p0nj_3 p0e_0 p0e_1 p0ed_0 p0ed_1 p0ed_2 p0ed_3 p0em_0 p0em_1 p0em_2 p0em_3 p0ej_0 p0ej_1 p0ej_2 p0ej_3 (by omega) h_p0n h_p0nd h_p0nm h_p0nj h_p0e h_p0ed h_p0em h_p0ej) (inSitO_o h_p0n) rfl (good_V ml_X8_225 im_X5_copyFrom se_X5_copyFrom ini_X5 co_X5_copyFrom) (by decide +kernel) ⟨Nat.zero_le _, Nat.zero_le _⟩ hl.1 (Nat.le_of_ble_eq_true rfl) rfl rfl dX8_back_32 (fun Ω_6 H locs hp hW hS => ?_)
      obtain ⟨h_p0n, h_p0nd, h_p0nm, h_p0nj, hF_6⟩ := hp
      have h_p0 := h_p0.keep (fun q h1 h2 => hF_6 q (by omega) (by omega) (by omega) (by omega))
      have h_p0h := h_p0h.keep (fun q h1 h2 => hF_6 q (by omega) (by omega) (by omega) (by omega))
      have h_p0i := h_p0i.keep (fun q h1 h2 => hF_6 q (by omega) (by omega) (by omega) (by omega))
      have h_p0a := h_p0a.keep (fun q h1 h2 => hF_6 q (by omega) (by omega) (by omega) (by omega))
      have h_p0e := h_p0e.keep (fun q h1 h2 => hF_6 q (by omega) (by omega) (by omega) (by omega))
      have h_p0ed := h_p0ed.keep (fun q h1 h2 => hF_6 q (by omega) (by omega) (by omega) (by omega))
      have h_p0em := h_p0em.keep (fun q h1 h2 => hF_6 q (by omega) (by omega) (by omega) (by omega))
      have h_p0ej := h_p0ej.keep (fun q h1 h2 => hF_6 q (by omega) (by omega) (by omega) (by omega))
      have hE : ∀ q : Nat, (q < (p0 + 18) ∨ (p0 + 18) + 1 ≤ q) → (q < (p0 + 19) ∨ (p0 + 19) + 5 ≤ q) → (q < (p0 + 24) ∨ (p0 + 24) + 5 ≤ q) → (q < (p0 + 29) ∨ (p0 + 29) + 4 ≤ q) → (q < (p0 + 33) ∨ (p0 + 33) + 92 ≤ q) → Ω_6 q = Ω q := fun q g0 g1 g2 g3 g4 => (hF_6 q (by omega) (by omega) (by omega) (by omega)).trans (hE q g0 g1 g2 g3 g4)
      generalize (f_X5_copyFrom p0nd_0 p0nd_1 p0nd_2 p0nd_3 p0nm_0 p0nm_1 p0nm_2 p0nm_3 p0nj_1 p0nj_2 p0nj_3 p0e_0 p0e_1 p0ed_0 p0ed_1 p0ed_2 p0ed_3 p0em_0 p0em_1 p0em_2 p0em_3 p0ej_0 p0ej_1 p0ej_2 p0ej_3) = Z_6 at h_p0n h_p0nd h_p0nm h_p0nj hR
      obtain ⟨z6_0, z6_1, z6_2, z6_3, z6_4, z6_5, z6_6, z6_7, z6_8, z6_9, z6_10, z6_11, z6_12, z6_13⟩ := Z_6
      dsimp only at h_p0n h_p0nd h_p0nm h_p0nj hR
      rw [f_X8_backV_C35] at hR
      refine lv_aload_n hx hb dX8_back_35 rfl (lv_at hl 0 rfl) ?_
      refine o_get hx hb hts hown hK hW (inMBO_o h_p0) rfl ig8 3 (by decide) fl_X8_35 rfl dX8_back_36 ?_
      refine o_Vv (rest := []) (As := []) (n := 0) hx hb hml hown hts hK hN hZ hW hS hA (c_X2_forget l G A Ω_6 (p0 + 33) p0h_0 p0h_1 p0h_2 h_p0h) (inHis_o h_p0h) rfl (good_V ml_X8_85 im_X2_forget se_X2_forget ini_X2 co_X2_forget) (by decide +kernel) ⟨Nat.zero_le _, Nat.zero_le _⟩ hl.1 (Nat.le_of_ble_eq_true rfl) rfl rfl dX8_back_39 (fun Ω_7 H locs hp hW hS => ?_)
      obtain ⟨h_p0h, hF_7⟩ := hp
      have h_p0 := h_p0.keep (fun q h1 h2 => hF_7 q (by omega))
      have h_p0n := h_p0n.keep (fun q h1 h2 => hF_7 q (by omega))
      have h_p0nd := h_p0nd.keep (fun q h1 h2 => hF_7 q (by omega))
      have h_p0nm := h_p0nm.keep (fun q h1 h2 => hF_7 q (by omega))
      have h_p0nj := h_p0nj.keep (fun q h1 h2 => hF_7 q (by omega))
      have h_p0i := h_p0i.keep (fun q h1 h2 => hF_7 q (by omega))
      have h_p0a := h_p0a.keep (fun q h1 h2 => hF_7 q (by omega))
      have h_p0e := h_p0e.keep (fun q h1 h2 => hF_7 q (by omega))
      have h_p0ed := h_p0ed.keep (fun q h1 h2 => hF_7 q (by omega))
      have h_p0em := h_p0em.keep (fun q h1 h2 => hF_7 q (by omega))
      have h_p0ej := h_p0ej.keep (fun q h1 h2 => hF_7 q (by omega))
      have hE : ∀ q : Nat, (q < (p0 + 18) ∨ (p0 + 18) + 1 ≤ q) → (q < (p0 + 19) ∨ (p0 + 19) + 5 ≤ q) → (q < (p0 + 24) ∨ (p0 + 24) + 5 ≤ q) → (q < (p0 + 29) ∨ (p0 + 29) + 4 ≤ q) → (q < (p0 + 33) ∨ (p0 + 33) + 92 ≤ q) → Ω_7 q = Ω q := fun q g0 g1 g2 g3 g4 => (hF_7 q (by omega)).trans (hE q g0 g1 g2 g3 g4)
      refine lv_aload_n hx hb dX8_back_42 rfl (lv_at hl 0 rfl) ?_
      refine o_get hx hb hts hown hK hW (inMBO_o h_p0) rfl ig8 2 (by decide) fl_X8_28 rfl dX8_back_43 ?_
      refine o_get hx hb hts hown hK hW (inSitO_o h_p0n) rfl ig5 2 (by decide) fl_X8_92 rfl dX8_back_46 ?_
      refine o_get hx hb hts hown hK hW (inJou_o h_p0nj) rfl ig3 0 (by decide) fl_X8_96 rfl dX8_back_49 ?_
      subst hR
      exact W.iret (v := z6_10) hx hb hr (fun t ht hW9 => ⟨⟨z6_10, Ω_7, rfl, ⟨rfl, h_p0n, h_p0nd, h_p0nm, h_p0nj, h_p0h, hE⟩, by rw [oB, ht]; exact hW⟩, hS.F ht⟩) hS.2.2 dX8_back_52
    · rw [if_pos c_5] at hR
      have i_5 := congrArg Int32.toInt c_5
      refine lv_bipush (v := (-2 : Int32)) hx hb dX8_back_19 (by decide) ?_
      subst hR
      exact W.iret (v := (-2 : Int32)) hx hb hr (fun t ht hW9 => ⟨⟨(-2 : Int32), Ω, rfl, ⟨rfl, h_p0n, h_p0nd, h_p0nm, h_p0nj, h_p0h, hE⟩, by rw [oB, ht]; exact hW⟩, hS.F ht⟩) hS.2.2 dX8_back_21
  · rw [if_pos c_3] at hR
    have i_3 := congrArg Int32.toInt c_3
    refine lv_iconst (v := (-1 : Int32)) hx hb dX8_back_8 (by decide) ?_
    subst hR
    exact W.iret (v := (-1 : Int32)) hx hb hr (fun t ht hW9 => ⟨⟨(-1 : Int32), Ω, rfl, ⟨rfl, h_p0n, h_p0nd, h_p0nm, h_p0nj, h_p0h, hE⟩, by rw [oB, ht]; exact hW⟩, hS.F ht⟩) hS.2.2 dX8_back_9
