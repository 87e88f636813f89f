set_option maxHeartbeats 4000000 in
set_option maxRecDepth 100000 in
theorem c_X9_next (l : Launch) (G : Gm) (A : Nat → Prop) (Ω : Om) (p0 : Nat) (p0_0 : Fn) (p0_1 : Fn) (p0_2 : Fn) (p0_3 : Fn) (p0_4 : Int32) (p0_5 : Fn) (p0_6 : Fn) (p0_7 : Fn) (p0_8 : Int32) (p0_9 : Int32) (p0_10 : Int32) (p0_11 : Int32) (p0_12 : Int32) (p0_13 : Int32) (hy : 0 ≤ p0_8.toInt ∧ p0_8.toInt ≤ 160) (ha : 0 ≤ p0_9.toInt ∧ p0_9.toInt ≤ p0_8.toInt) (h_p0 : inMod G Ω p0 p0_0 p0_1 p0_2 p0_3 p0_4 p0_5 p0_6 p0_7 p0_8 p0_9 p0_10 p0_11 p0_12 p0_13) : Met l yX9_next (wz yX9_next cX9_next 2 none) ({ frames := 2, cells := 0, slots := 0, locals := 44 } : Room) (va_Pc [.ref p0] (oS G A Ω)) (va_Qv (fun (Ω1 : Om) => inMod G Ω1 p0 p0_0 p0_1 p0_2 p0_3 p0_4 p0_5 p0_6 p0_7 p0_8 ((f_X9_next p0_7 p0_8 p0_9).1) ((f_X9_next p0_7 p0_8 p0_9).2.1) ((f_X9_next p0_7 p0_8 p0_9).2.2.1) ((f_X9_next p0_7 p0_8 p0_9).2.2.2) p0_13 ∧ (∀ q : Nat, (q < p0 ∨ p0 + 8 ≤ q) → Ω1 q = Ω q)) (oB G A) A) 0 0 A := by
  refine Met.ofW (cc := cX9_next) (maxL := 2) (ret := none) (by decide) rfl ?_
  intro p e s m args below meth c s₁ B hml hv
  obtain ⟨rfl, hW, hK, hN, hZ⟩ := hv
  have hx := B.exec
  have hb := B.bytes
  have hr := B.returns
  have hts : ∀ w ∈ gt, w.before _ s = true := fun w hw => atoms_spec (ws := wz yX9_next cX9_next 2 none) B.pre w (List.mem_cons_of_mem _ hw)
  have hown : s.vm.findClass RX9 = some m.cls := findClass_of_methodNamed B.named
  have hlocks := B.notSynchronized
  have hA : ∀ q, A q → A q := fun _ h => h
  have hS : va_S A s.heap s.heap [] := va_S.rf
  have hS0 := hS
  have hl := lv_entry ([.ref p0]) (n := 2) (Nat.le_of_ble_eq_true rfl)
  rw [lg_entry_eq]
  generalize (lg_sl ([.ref p0]) ++ List.replicate (2 - (lg_sl ([.ref p0])).length) Slot.unset).toArray = ls at hl ⊢
  have hl : lv_has ls 2 [(0, .ref p0)] := hl
  have hE : ∀ q : Nat, (q < p0 ∨ p0 + 8 ≤ q) → Ω q = Ω q := by intros; rfl
  generalize hR : (f_X9_next p0_7 p0_8 p0_9) = R
  rw [f_X9_next] at hR
  have L0 : ∀ (n_2 : Nat) (p0_9_1 : Int32) (Ω_3 : Om) (H : Heap) (locs : List Loc), (0 ≤ p0_9_1.toInt ∧ p0_9_1.toInt ≤ p0_8.toInt ∧ 160 - p0_9_1.toInt < n_2) → inMod G Ω_3 p0 p0_0 p0_1 p0_2 p0_3 p0_4 p0_5 p0_6 p0_7 p0_8 p0_9_1 p0_10 p0_11 p0_12 p0_13 → (∀ q : Nat, (q < p0 ∨ p0 + 8 ≤ q) → Ω_3 q = Ω q) → oW G A Ω_3 H → va_S A s.heap H locs → ∀ ls : Array Slot, lv_has ls 2 [(0, .ref p0)] → (f_X9_next_L0 p0_7 p0_8 n_2 p0_9_1) = R → W p l e (headSpec (wz yX9_next cX9_next 2 none) ({ frames := 2, cells := 0, slots := 0, locals := 44 } : Room)).room s m ([.ref p0] : List Value).toArray below meth c H locs 0 0 (MQ below (va_Qv (fun (Ω1 : Om) => inMod G Ω1 p0 p0_0 p0_1 p0_2 p0_3 p0_4 p0_5 p0_6 p0_7 p0_8 (R.1) (R.2.1) (R.2.2.1) (R.2.2.2) p0_13 ∧ (∀ q : Nat, (q < p0 ∨ p0 + 8 ≤ q) → Ω1 q = Ω q)) (oB G A) A) ([.ref p0] : List Value).toArray s 0 0 A) (F0 m 0 ls []) := by
    intro n_2
    induction n_2 with
    | zero =>
      intro p0_9_1 Ω_3 H locs v_0_0 h_p0 hE hW hS ls hl hR
      exfalso
      omega
    | succ n_2 ih0 =>
      intro p0_9_1 Ω_3 H locs v_0_0 h_p0 hE hW hS ls hl hR
      rw [f_X9_next_L0] at hR
      refine lv_aload_n hx hb dX9_next_0 rfl (lv_at hl 0 rfl) ?_
      refine lv_bipush (v := (32 : Int32)) hx hb dX9_next_1 (by decide) ?_
      refine lv_bipush (v := (32 : Int32)) hx hb dX9_next_3 (by decide) ?_
      have j_4 : (32 : Int32).toInt = 32 := by decide
      refine o_ViR (rest := []) (As := [.int (32 : Int32), .int (32 : Int32)]) (n := 2) hx hb hml hown hts hK hN hZ hW hS hA (c_X9_isHere l G A Ω_3 p0 p0_0 p0_1 p0_2 p0_3 p0_4 p0_5 p0_6 p0_7 p0_8 p0_9_1 p0_10 p0_11 p0_12 p0_13 (32 : Int32) (32 : Int32) (by omega) (by omega) h_p0) (inMod_o h_p0) rfl (good_V ml_X9_153 im_X9_isHere se_X9_isHere ini_X9 co_X9_isHere) (by decide +kernel) ⟨Nat.zero_le _, Nat.zero_le _⟩ hl.1 (Nat.le_of_ble_eq_true rfl) rfl rfl dX9_next_5 (fun r H locs hp hW hS => ?_)
      obtain ⟨rfl, hz_5⟩ := hp
      have j_7 : (0 : Int32).toInt = 0 := by decide
      refine lv_if_eq (tgt := 24) hx hb dX9_next_8 (by decide) (fun c_6 => ?_) (fun c_6 => ?_)
      · rw [if_pos c_6] at hR
        have i_6 := congrArg Int32.toInt c_6
        refine lv_aload_n hx hb dX9_next_24 rfl (lv_at hl 0 rfl) ?_
        refine lv_aload_n hx hb dX9_next_25 rfl (lv_at hl 0 rfl) ?_
        refine o_get hx hb hts hown hK hW (inMod_o h_p0) rfl ig9 9 (by decide) fl_X9_150 rfl dX9_next_26 ?_
        refine vMod_10 hx hb hts hown hK hW hS hA h_p0 fl_X9_156 dX9_next_29 (fun Ω_8 H locs h_p0 hF_8 hW hS => ?_)
        have hE : ∀ q : Nat, (q < p0 ∨ p0 + 8 ≤ q) → Ω_8 q = Ω q := fun q g0 => (hF_8 q (by omega)).trans (hE q g0)
        refine lv_aload_n hx hb dX9_next_32 rfl (lv_at hl 0 rfl) ?_
        refine lv_iconst (v := (0 : Int32)) hx hb dX9_next_33 (by decide) ?_
        refine vMod_12 hx hb hts hown hK hW hS hA h_p0 fl_X9_159 dX9_next_34 (fun Ω_9 H locs h_p0 hF_9 hW hS => ?_)
        have hE : ∀ q : Nat, (q < p0 ∨ p0 + 8 ≤ q) → Ω_9 q = Ω q := fun q g0 => (hF_9 q (by omega)).trans (hE q g0)
        refine lv_aload_n hx hb dX9_next_37 rfl (lv_at hl 0 rfl) ?_
        refine o_get hx hb hts hown hK hW (inMod_o h_p0) rfl ig9 9 (by decide) fl_X9_150 rfl dX9_next_38 ?_
        refine lv_aload_n hx hb dX9_next_41 rfl (lv_at hl 0 rfl) ?_
        refine o_get hx hb hts hown hK hW (inMod_o h_p0) rfl ig9 8 (by decide) fl_X9_147 rfl dX9_next_42 ?_
        refine lv_icmp_ne (tgt := 56) hx hb dX9_next_45 (by decide) (fun c_10 => ?_) (fun c_10 => ?_)
        · rw [if_neg c_10] at hR
          have i_10 := rne c_10
          refine lv_aload_n hx hb dX9_next_56 rfl (lv_at hl 0 rfl) ?_
          refine lv_bipush (v := (48 : Int32)) hx hb dX9_next_57 (by decide) ?_
          refine lv_bipush (v := (57 : Int32)) hx hb dX9_next_59 (by decide) ?_
          have j_11 : (48 : Int32).toInt = 48 := by decide
          have j_12 : (57 : Int32).toInt = 57 := by decide
          refine o_ViR (rest := []) (As := [.int (48 : Int32), .int (57 : Int32)]) (n := 2) hx hb hml hown hts hK hN hZ hW hS hA (c_X9_isHere l G A Ω_9 p0 p0_0 p0_1 p0_2 p0_3 p0_4 p0_5 p0_6 p0_7 p0_8 p0_9_1 p0_9_1 p0_11 (0 : Int32) p0_13 (48 : Int32) (57 : Int32) (by omega) (by omega) h_p0) (inMod_o h_p0) rfl (good_V ml_X9_153 im_X9_isHere se_X9_isHere ini_X9 co_X9_isHere) (by decide +kernel) ⟨Nat.zero_le _, Nat.zero_le _⟩ hl.1 (Nat.le_of_ble_eq_true rfl) rfl rfl dX9_next_61 (fun r H locs hp hW hS => ?_)
          obtain ⟨rfl, hz_13⟩ := hp
          refine lv_if_eq (tgt := 181) hx hb dX9_next_64 (by decide) (fun c_14 => ?_) (fun c_14 => ?_)
          · rw [if_pos c_14] at hR
            have i_14 := congrArg Int32.toInt c_14
            refine lv_aload_n hx hb dX9_next_181 rfl (lv_at hl 0 rfl) ?_
            refine lv_bipush (v := (97 : Int32)) hx hb dX9_next_182 (by decide) ?_
            refine lv_bipush (v := (122 : Int32)) hx hb dX9_next_184 (by decide) ?_
            have j_15 : (97 : Int32).toInt = 97 := by decide
            have j_16 : (122 : Int32).toInt = 122 := by decide
            refine o_ViR (rest := []) (As := [.int (97 : Int32), .int (122 : Int32)]) (n := 2) hx hb hml hown hts hK hN hZ hW hS hA (c_X9_isHere l G A Ω_9 p0 p0_0 p0_1 p0_2 p0_3 p0_4 p0_5 p0_6 p0_7 p0_8 p0_9_1 p0_9_1 p0_11 (0 : Int32) p0_13 (97 : Int32) (122 : Int32) (by omega) (by omega) h_p0) (inMod_o h_p0) rfl (good_V ml_X9_153 im_X9_isHere se_X9_isHere ini_X9 co_X9_isHere) (by decide +kernel) ⟨Nat.zero_le _, Nat.zero_le _⟩ hl.1 (Nat.le_of_ble_eq_true rfl) rfl rfl dX9_next_186 (fun r H locs hp hW hS => ?_)
            obtain ⟨rfl, hz_17⟩ := hp
            refine lv_if_eq (tgt := 333) hx hb dX9_next_189 (by decide) (fun c_18 => ?_) (fun c_18 => ?_)
            · rw [if_pos c_18] at hR
              have i_18 := congrArg Int32.toInt c_18
              refine lv_aload_n hx hb dX9_next_333 rfl (lv_at hl 0 rfl) ?_
              refine lv_aload_n hx hb dX9_next_334 rfl (lv_at hl 0 rfl) ?_
              refine o_get hx hb hts hown hK hW (inMod_o h_p0) rfl ig9 7 (by decide) fl_X9_29 rfl dX9_next_335 ?_
              refine lv_aload_n hx hb dX9_next_338 rfl (lv_at hl 0 rfl) ?_
              refine o_get hx hb hts hown hK hW (inMod_o h_p0) rfl ig9 9 (by decide) fl_X9_150 rfl dX9_next_339 ?_
              refine o_iald hx hb hK hW (inMod_a6 h_p0) (vp_in_iff.mpr ⟨by omega, by omega⟩) dX9_next_342 ?_
              refine lv_bipush (v := (59 : Int32)) hx hb dX9_next_343 (by decide) ?_
              have J353 : ∀ (s1_19 : Int32) (H : Heap) (locs : List Loc), oW G A Ω_9 H → va_S A s.heap H locs → ∀ ls : Array Slot, lv_has ls 2 [(0, .ref p0)] → (f_X9_next_J353 p0_9_1 p0_9_1 (0 : Int32) s1_19) = R → W p l e (headSpec (wz yX9_next cX9_next 2 none) ({ frames := 2, cells := 0, slots := 0, locals := 44 } : Room)).room s m ([.ref p0] : List Value).toArray below meth c H locs 0 0 (MQ below (va_Qv (fun (Ω1 : Om) => inMod G Ω1 p0 p0_0 p0_1 p0_2 p0_3 p0_4 p0_5 p0_6 p0_7 p0_8 (R.1) (R.2.1) (R.2.2.1) (R.2.2.2) p0_13 ∧ (∀ q : Nat, (q < p0 ∨ p0 + 8 ≤ q) → Ω1 q = Ω q)) (oB G A) A) ([.ref p0] : List Value).toArray s 0 0 A) (F0 m 353 ls [.int s1_19, .ref p0]) := by
                intro s1_19 H locs hW hS ls hl hR
                rw [f_X9_next_J353] at hR
                refine vMod_11 hx hb hts hown hK hW hS hA h_p0 fl_X9_162 dX9_next_353 (fun Ω_20 H locs h_p0 hF_20 hW hS => ?_)
                have hE : ∀ q : Nat, (q < p0 ∨ p0 + 8 ≤ q) → Ω_20 q = Ω q := fun q g0 => (hF_20 q (by omega)).trans (hE q g0)
                refine lv_aload_n hx hb dX9_next_356 rfl (lv_at hl 0 rfl) ?_
                refine lv_dup hx hb dX9_next_357 rfl ?_
                refine o_get hx hb hts hown hK hW (inMod_o h_p0) rfl ig9 9 (by decide) fl_X9_150 rfl dX9_next_358 ?_
                refine lv_iconst (v := (1 : Int32)) hx hb dX9_next_361 (by decide) ?_
                refine lv_iadd hx hb dX9_next_362 ?_
                refine vMod_9 hx hb hts hown hK hW hS hA h_p0 fl_X9_150 dX9_next_363 (fun Ω_21 H locs h_p0 hF_21 hW hS => ?_)
                have hE : ∀ q : Nat, (q < p0 ∨ p0 + 8 ≤ q) → Ω_21 q = Ω q := fun q g0 => (hF_21 q (by omega)).trans (hE q g0)
                subst hR
                exact W.vret hx hb hr (fun t ht hW9 => ⟨⟨Ω_21, rfl, ⟨h_p0, hE⟩, by rw [oB, ht]; exact hW⟩, hS.F ht⟩) hS.2.2 dX9_next_366
              have j_23 : (59 : Int32).toInt = 59 := by decide
              refine lv_icmp_ne (tgt := 352) hx hb dX9_next_345 (by decide) (fun c_22 => ?_) (fun c_22 => ?_)
              · rw [if_neg c_22] at hR
                have i_22 := rne c_22
                refine lv_iconst (v := (2 : Int32)) hx hb dX9_next_352 (by decide) ?_
                have j_24 : (2 : Int32).toInt = 2 := by decide
                exact J353 (2 : Int32) H locs hW hS ls (lv_sub hl [0] rfl) hR
              · rw [if_pos c_22] at hR
                have i_22 := congrArg Int32.toInt c_22
                refine lv_iconst (v := (3 : Int32)) hx hb dX9_next_348 (by decide) ?_
                refine lv_goto (tgt := 353) hx hb dX9_next_349 (by decide) ?_
                have j_25 : (3 : Int32).toInt = 3 := by decide
                exact J353 (3 : Int32) H locs hW hS ls (lv_sub hl [0] rfl) hR
            · rw [if_neg c_18] at hR
              have i_18 := rne c_18
              have b_c_18 := rHere c_18
              have L192 : ∀ (n_27 : Nat) (p0_9_26 : Int32) (p0_12_26 : Int32) (Ω_28 : Om) (H : Heap) (locs : List Loc), (0 ≤ p0_9_26.toInt ∧ p0_9_26.toInt ≤ p0_8.toInt ∧ 160 - p0_9_26.toInt < n_27) → inMod G Ω_28 p0 p0_0 p0_1 p0_2 p0_3 p0_4 p0_5 p0_6 p0_7 p0_8 p0_9_26 p0_9_1 p0_11 p0_12_26 p0_13 → (∀ q : Nat, (q < p0 ∨ p0 + 8 ≤ q) → Ω_28 q = Ω q) → oW G A Ω_28 H → va_S A s.heap H locs → ∀ ls : Array Slot, lv_has ls 2 [(0, .ref p0)] → (f_X9_next_L192 p0_7 p0_8 p0_9_1 n_27 p0_9_26 p0_12_26) = R → W p l e (headSpec (wz yX9_next cX9_next 2 none) ({ frames := 2, cells := 0, slots := 0, locals := 44 } : Room)).room s m ([.ref p0] : List Value).toArray below meth c H locs 0 0 (MQ below (va_Qv (fun (Ω1 : Om) => inMod G Ω1 p0 p0_0 p0_1 p0_2 p0_3 p0_4 p0_5 p0_6 p0_7 p0_8 (R.1) (R.2.1) (R.2.2.1) (R.2.2.2) p0_13 ∧ (∀ q : Nat, (q < p0 ∨ p0 + 8 ≤ q) → Ω1 q = Ω q)) (oB G A) A) ([.ref p0] : List Value).toArray s 0 0 A) (F0 m 192 ls []) := by
                intro n_27
                induction n_27 with
                | zero =>
                  intro p0_9_26 p0_12_26 Ω_28 H locs v_192_0 h_p0 hE hW hS ls hl hR
                  exfalso
                  omega
                | succ n_27 ih192 =>
                  intro p0_9_26 p0_12_26 Ω_28 H locs v_192_0 h_p0 hE hW hS ls hl hR
                  rw [f_X9_next_L192] at hR
                  refine lv_aload_n hx hb dX9_next_192 rfl (lv_at hl 0 rfl) ?_
                  refine lv_bipush (v := (97 : Int32)) hx hb dX9_next_193 (by decide) ?_
                  refine lv_bipush (v := (122 : Int32)) hx hb dX9_next_195 (by decide) ?_
                  refine o_ViR (rest := []) (As := [.int (97 : Int32), .int (122 : Int32)]) (n := 2) hx hb hml hown hts hK hN hZ hW hS hA (c_X9_isHere l G A Ω_28 p0 p0_0 p0_1 p0_2 p0_3 p0_4 p0_5 p0_6 p0_7 p0_8 p0_9_26 p0_9_1 p0_11 p0_12_26 p0_13 (97 : Int32) (122 : Int32) (by omega) (by omega) h_p0) (inMod_o h_p0) rfl (good_V ml_X9_153 im_X9_isHere se_X9_isHere ini_X9 co_X9_isHere) (by decide +kernel) ⟨Nat.zero_le _, Nat.zero_le _⟩ hl.1 (Nat.le_of_ble_eq_true rfl) rfl rfl dX9_next_197 (fun r H locs hp hW hS => ?_)
                  obtain ⟨rfl, hz_29⟩ := hp
                  refine lv_if_eq (tgt := 254) hx hb dX9_next_200 (by decide) (fun c_30 => ?_) (fun c_30 => ?_)
                  · rw [if_pos c_30] at hR
                    have i_30 := congrArg Int32.toInt c_30
                    refine lv_aload_n hx hb dX9_next_254 rfl (lv_at hl 0 rfl) ?_
                    refine o_get hx hb hts hown hK hW (inMod_o h_p0) rfl ig9 12 (by decide) fl_X9_159 rfl dX9_next_255 ?_
                    refine lv_bipush (v := (114 : Int32)) hx hb dX9_next_258 (by decide) ?_
                    have J304 : ∀ (s0_31 : Int32) (H : Heap) (locs : List Loc), oW G A Ω_28 H → va_S A s.heap H locs → ∀ ls : Array Slot, lv_has ls 2 [(0, .ref p0)] → (f_X9_next_J304 p0_9_26 p0_9_1 p0_12_26 s0_31) = R → W p l e (headSpec (wz yX9_next cX9_next 2 none) ({ frames := 2, cells := 0, slots := 0, locals := 44 } : Room)).room s m ([.ref p0] : List Value).toArray below meth c H locs 0 0 (MQ below (va_Qv (fun (Ω1 : Om) => inMod G Ω1 p0 p0_0 p0_1 p0_2 p0_3 p0_4 p0_5 p0_6 p0_7 p0_8 (R.1) (R.2.1) (R.2.2.1) (R.2.2.2) p0_13 ∧ (∀ q : Nat, (q < p0 ∨ p0 + 8 ≤ q) → Ω1 q = Ω q)) (oB G A) A) ([.ref p0] : List Value).toArray s 0 0 A) (F0 m 304 ls [.int s0_31]) := by
                      intro s0_31 H locs hW hS ls hl hR
                      rw [f_X9_next_J304] at hR
                      refine lv_istore_n (lv' := [(1, .int s0_31), (0, .ref p0)]) hx hb dX9_next_304 rfl hl (by decide) rfl (fun ls hl => ?_)
                      refine lv_aload_n hx hb dX9_next_305 rfl (lv_at hl 1 rfl) ?_
                      refine lv_iload_n hx hb dX9_next_306 rfl (lv_at hl 0 rfl) ?_
                      refine lv_if_ne (tgt := 322) hx hb dX9_next_307 (by decide) (fun c_32 => ?_) (fun c_32 => ?_)
                      · rw [if_neg c_32] at hR
                        have i_32 := rne c_32
                        refine lv_iconst (v := (4 : Int32)) hx hb dX9_next_322 (by decide) ?_
                        refine lv_goto (tgt := 327) hx hb dX9_next_323 (by decide) ?_
                        refine vMod_11 hx hb hts hown hK hW hS hA h_p0 fl_X9_162 dX9_next_327 (fun Ω_33 H locs h_p0 hF_33 hW hS => ?_)
                        have hE : ∀ q : Nat, (q < p0 ∨ p0 + 8 ≤ q) → Ω_33 q = Ω q := fun q g0 => (hF_33 q (by omega)).trans (hE q g0)
                        refine lv_goto (tgt := 366) hx hb dX9_next_330 (by decide) ?_
                        subst hR
                        exact W.vret hx hb hr (fun t ht hW9 => ⟨⟨Ω_33, rfl, ⟨h_p0, hE⟩, by rw [oB, ht]; exact hW⟩, hS.F ht⟩) hS.2.2 dX9_next_366
                      · rw [if_pos c_32] at hR
                        have i_32 := congrArg Int32.toInt c_32
                        refine lv_aload_n hx hb dX9_next_310 rfl (lv_at hl 1 rfl) ?_
                        refine o_get hx hb hts hown hK hW (inMod_o h_p0) rfl ig9 12 (by decide) fl_X9_159 rfl dX9_next_311 ?_
                        refine o_SiR (rest := [.ref p0]) (As := [.int p0_12_26]) (n := 1) hx hb hml hown hts hK hN hZ hW hS hA (c_X9_kindOf l G A Ω_28 p0_12_26) ml_X9_166 st_X9_kindOf ini_X9 co_X9_kindOf (by decide +kernel) ⟨Nat.zero_le _, Nat.zero_le _⟩ hl.1 (Nat.le_of_ble_eq_true rfl) rfl rfl dX9_next_314 (fun r H locs hp hW hS => ?_)
                        subst hp
                        refine lv_bipush (v := (-9 : Int32)) hx hb dX9_next_317 (by decide) ?_
                        have j_36 : (-9 : Int32).toInt = -9 := by decide
                        refine lv_icmp_eq (tgt := 326) hx hb dX9_next_319 (by decide) (fun c_35 => ?_) (fun c_35 => ?_)
                        · rw [if_pos c_35] at hR
                          have i_35 := congrArg Int32.toInt c_35
                          refine lv_iconst (v := (2 : Int32)) hx hb dX9_next_326 (by decide) ?_
                          refine vMod_11 hx hb hts hown hK hW hS hA h_p0 fl_X9_162 dX9_next_327 (fun Ω_37 H locs h_p0 hF_37 hW hS => ?_)
                          have hE : ∀ q : Nat, (q < p0 ∨ p0 + 8 ≤ q) → Ω_37 q = Ω q := fun q g0 => (hF_37 q (by omega)).trans (hE q g0)
                          refine lv_goto (tgt := 366) hx hb dX9_next_330 (by decide) ?_
                          subst hR
                          exact W.vret hx hb hr (fun t ht hW9 => ⟨⟨Ω_37, rfl, ⟨h_p0, hE⟩, by rw [oB, ht]; exact hW⟩, hS.F ht⟩) hS.2.2 dX9_next_366
                        · rw [if_neg c_35] at hR
                          have i_35 := rne c_35
                          refine lv_iconst (v := (4 : Int32)) hx hb dX9_next_322 (by decide) ?_
                          refine lv_goto (tgt := 327) hx hb dX9_next_323 (by decide) ?_
                          refine vMod_11 hx hb hts hown hK hW hS hA h_p0 fl_X9_162 dX9_next_327 (fun Ω_38 H locs h_p0 hF_38 hW hS => ?_)
                          have hE : ∀ q : Nat, (q < p0 ∨ p0 + 8 ≤ q) → Ω_38 q = Ω q := fun q g0 => (hF_38 q (by omega)).trans (hE q g0)
                          refine lv_goto (tgt := 366) hx hb dX9_next_330 (by decide) ?_
                          subst hR
                          exact W.vret hx hb hr (fun t ht hW9 => ⟨⟨Ω_38, rfl, ⟨h_p0, hE⟩, by rw [oB, ht]; exact hW⟩, hS.F ht⟩) hS.2.2 dX9_next_366
                    have J299 : ∀ (H : Heap) (locs : List Loc), oW G A Ω_28 H → va_S A s.heap H locs → ∀ ls : Array Slot, lv_has ls 2 [(0, .ref p0)] → (f_X9_next_J299 p0_9_26 p0_9_1 p0_12_26) = R → W p l e (headSpec (wz yX9_next cX9_next 2 none) ({ frames := 2, cells := 0, slots := 0, locals := 44 } : Room)).room s m ([.ref p0] : List Value).toArray below meth c H locs 0 0 (MQ below (va_Qv (fun (Ω1 : Om) => inMod G Ω1 p0 p0_0 p0_1 p0_2 p0_3 p0_4 p0_5 p0_6 p0_7 p0_8 (R.1) (R.2.1) (R.2.2.1) (R.2.2.2) p0_13 ∧ (∀ q : Nat, (q < p0 ∨ p0 + 8 ≤ q) → Ω1 q = Ω q)) (oB G A) A) ([.ref p0] : List Value).toArray s 0 0 A) (F0 m 299 ls []) := by
                      intro H locs hW hS ls hl hR
                      rw [f_X9_next_J299] at hR
                      refine lv_iconst (v := (1 : Int32)) hx hb dX9_next_299 (by decide) ?_
                      refine lv_goto (tgt := 304) hx hb dX9_next_300 (by decide) ?_
                      have j_40 : (1 : Int32).toInt = 1 := by decide
                      exact J304 (1 : Int32) H locs hW hS ls (lv_sub hl [0] rfl) hR
                    have j_42 : (114 : Int32).toInt = 114 := by decide
                    refine lv_icmp_eq (tgt := 299) hx hb dX9_next_260 (by decide) (fun c_41 => ?_) (fun c_41 => ?_)
                    · rw [if_pos c_41] at hR
                      have i_41 := congrArg Int32.toInt c_41
                      exact J299 H locs hW hS ls (lv_sub hl [0] rfl) hR
                    · rw [if_neg c_41] at hR
                      have i_41 := rne c_41
                      refine lv_aload_n hx hb dX9_next_263 rfl (lv_at hl 0 rfl) ?_
                      refine o_get hx hb hts hown hK hW (inMod_o h_p0) rfl ig9 12 (by decide) fl_X9_159 rfl dX9_next_264 ?_
                      refine lv_bipush (v := (102 : Int32)) hx hb dX9_next_267 (by decide) ?_
                      have j_44 : (102 : Int32).toInt = 102 := by decide
                      refine lv_icmp_eq (tgt := 299) hx hb dX9_next_269 (by decide) (fun c_43 => ?_) (fun c_43 => ?_)
                      · rw [if_pos c_43] at hR
                        have i_43 := congrArg Int32.toInt c_43
                        exact J299 H locs hW hS ls (lv_sub hl [0] rfl) hR
                      · rw [if_neg c_43] at hR
                        have i_43 := rne c_43
                        refine lv_aload_n hx hb dX9_next_272 rfl (lv_at hl 0 rfl) ?_
                        refine o_get hx hb hts hown hK hW (inMod_o h_p0) rfl ig9 12 (by decide) fl_X9_159 rfl dX9_next_273 ?_
                        refine lv_bipush (v := (97 : Int32)) hx hb dX9_next_276 (by decide) ?_
                        refine lv_icmp_eq (tgt := 299) hx hb dX9_next_278 (by decide) (fun c_45 => ?_) (fun c_45 => ?_)
                        · rw [if_pos c_45] at hR
                          have i_45 := congrArg Int32.toInt c_45
                          exact J299 H locs hW hS ls (lv_sub hl [0] rfl) hR
                        · rw [if_neg c_45] at hR
                          have i_45 := rne c_45
                          refine lv_aload_n hx hb dX9_next_281 rfl (lv_at hl 0 rfl) ?_
                          refine o_get hx hb hts hown hK hW (inMod_o h_p0) rfl ig9 12 (by decide) fl_X9_159 rfl dX9_next_282 ?_
                          refine lv_bipush (v := (107 : Int32)) hx hb dX9_next_285 (by decide) ?_
                          have j_47 : (107 : Int32).toInt = 107 := by decide
                          refine lv_icmp_eq (tgt := 299) hx hb dX9_next_287 (by decide) (fun c_46 => ?_) (fun c_46 => ?_)
                          · rw [if_pos c_46] at hR
                            have i_46 := congrArg Int32.toInt c_46
                            exact J299 H locs hW hS ls (lv_sub hl [0] rfl) hR
                          · rw [if_neg c_46] at hR
                            have i_46 := rne c_46
                            refine lv_aload_n hx hb dX9_next_290 rfl (lv_at hl 0 rfl) ?_
                            refine o_get hx hb hts hown hK hW (inMod_o h_p0) rfl ig9 12 (by decide) fl_X9_159 rfl dX9_next_291 ?_
                            refine lv_bipush (v := (115 : Int32)) hx hb dX9_next_294 (by decide) ?_
                            have j_49 : (115 : Int32).toInt = 115 := by decide
                            refine lv_icmp_ne (tgt := 303) hx hb dX9_next_296 (by decide) (fun c_48 => ?_) (fun c_48 => ?_)
                            · rw [if_neg c_48] at hR
                              have i_48 := rne c_48
                              refine lv_iconst (v := (0 : Int32)) hx hb dX9_next_303 (by decide) ?_
                              exact J304 (0 : Int32) H locs hW hS ls (lv_sub hl [0] rfl) hR
                            · rw [if_pos c_48] at hR
                              have i_48 := congrArg Int32.toInt c_48
                              exact J299 H locs hW hS ls (lv_sub hl [0] rfl) hR
                  · rw [if_neg c_30] at hR
                    have i_30 := rne c_30
                    have b_c_30 := rHere c_30
                    refine lv_aload_n hx hb dX9_next_203 rfl (lv_at hl 0 rfl) ?_
                    refine lv_aload_n hx hb dX9_next_204 rfl (lv_at hl 0 rfl) ?_
                    refine o_get hx hb hts hown hK hW (inMod_o h_p0) rfl ig9 12 (by decide) fl_X9_159 rfl dX9_next_205 ?_
                    refine lv_ldc (v := (65535 : Int32)) hx hb hown (hts _ wm_c165) dX9_next_208 ?_
                    have J238 : ∀ (s1_50 : Int32) (H : Heap) (locs : List Loc), oW G A Ω_28 H → va_S A s.heap H locs → ∀ ls : Array Slot, lv_has ls 2 [(0, .ref p0)] → (f_X9_next_J238 p0_9_26 (f_X9_next_L192 p0_7 p0_8 p0_9_1 n_27) s1_50) = R → W p l e (headSpec (wz yX9_next cX9_next 2 none) ({ frames := 2, cells := 0, slots := 0, locals := 44 } : Room)).room s m ([.ref p0] : List Value).toArray below meth c H locs 0 0 (MQ below (va_Qv (fun (Ω1 : Om) => inMod G Ω1 p0 p0_0 p0_1 p0_2 p0_3 p0_4 p0_5 p0_6 p0_7 p0_8 (R.1) (R.2.1) (R.2.2.1) (R.2.2.2) p0_13 ∧ (∀ q : Nat, (q < p0 ∨ p0 + 8 ≤ q) → Ω1 q = Ω q)) (oB G A) A) ([.ref p0] : List Value).toArray s 0 0 A) (F0 m 238 ls [.int s1_50, .ref p0]) := by
                      intro s1_50 H locs hW hS ls hl hR
                      rw [f_X9_next_J238] at hR
                      refine vMod_12 hx hb hts hown hK hW hS hA h_p0 fl_X9_159 dX9_next_238 (fun Ω_51 H locs h_p0 hF_51 hW hS => ?_)
                      have hE : ∀ q : Nat, (q < p0 ∨ p0 + 8 ≤ q) → Ω_51 q = Ω q := fun q g0 => (hF_51 q (by omega)).trans (hE q g0)
                      refine lv_aload_n hx hb dX9_next_241 rfl (lv_at hl 0 rfl) ?_
                      refine lv_dup hx hb dX9_next_242 rfl ?_
                      refine o_get hx hb hts hown hK hW (inMod_o h_p0) rfl ig9 9 (by decide) fl_X9_150 rfl dX9_next_243 ?_
                      refine lv_iconst (v := (1 : Int32)) hx hb dX9_next_246 (by decide) ?_
                      refine lv_iadd hx hb dX9_next_247 ?_
                      refine vMod_9 hx hb hts hown hK hW hS hA h_p0 fl_X9_150 dX9_next_248 (fun Ω_52 H locs h_p0 hF_52 hW hS => ?_)
                      have hE : ∀ q : Nat, (q < p0 ∨ p0 + 8 ≤ q) → Ω_52 q = Ω q := fun q g0 => (hF_52 q (by omega)).trans (hE q g0)
                      refine lv_goto (tgt := 192) hx hb dX9_next_251 (by decide) ?_
                      have j_53 : (1 : Int32).toInt = 1 := by decide
                      try have j_54 : (p0_9_26 + (1 : Int32)).toInt = p0_9_26.toInt + (1 : Int32).toInt := fb_addI (by omega) (by omega)
                      exact ih192 (p0_9_26 + (1 : Int32)) s1_50 Ω_52 H locs (by omega) h_p0 hE hW hS ls (lv_sub hl [0] rfl) hR
                    have j_56 : (65535 : Int32).toInt = 65535 := by decide
                    refine lv_icmp_le (tgt := 220) hx hb dX9_next_210 (by decide) (fun c_55 => ?_) (fun c_55 => ?_)
                    · rw [if_pos c_55] at hR
                      have i_55 := rle c_55
                      refine lv_sipush (v := (256 : Int32)) hx hb dX9_next_220 (by decide) ?_
                      refine lv_aload_n hx hb dX9_next_223 rfl (lv_at hl 0 rfl) ?_
                      refine o_get hx hb hts hown hK hW (inMod_o h_p0) rfl ig9 12 (by decide) fl_X9_159 rfl dX9_next_224 ?_
                      refine lv_imul hx hb dX9_next_227 ?_
                      refine lv_aload_n hx hb dX9_next_228 rfl (lv_at hl 0 rfl) ?_
                      refine o_get hx hb hts hown hK hW (inMod_o h_p0) rfl ig9 7 (by decide) fl_X9_29 rfl dX9_next_229 ?_
                      refine lv_aload_n hx hb dX9_next_232 rfl (lv_at hl 0 rfl) ?_
                      refine o_get hx hb hts hown hK hW (inMod_o h_p0) rfl ig9 9 (by decide) fl_X9_150 rfl dX9_next_233 ?_
                      refine o_iald hx hb hK hW (inMod_a6 h_p0) (vp_in_iff.mpr ⟨by omega, by omega⟩) dX9_next_236 ?_
                      refine lv_iadd hx hb dX9_next_237 ?_
                      have j_57 : (256 : Int32).toInt = 256 := by decide
                      try have j_58 : ((256 : Int32) * p0_12_26).toInt = 256 * p0_12_26.toInt := rg_mul2 (by decide) (by omega) (by omega)
                      try have j_59 : (((256 : Int32) * p0_12_26) + (p0_7 p0_9_26.toNatClampNeg)).toInt = ((256 : Int32) * p0_12_26).toInt + (p0_7 p0_9_26.toNatClampNeg).toInt := fb_addI (by omega) (by omega)
                      exact J238 (((256 : Int32) * p0_12_26) + (p0_7 p0_9_26.toNatClampNeg)) H locs hW hS ls (lv_sub hl [0] rfl) hR
                    · rw [if_neg c_55] at hR
                      have i_55 := rnle c_55
                      refine lv_aload_n hx hb dX9_next_213 rfl (lv_at hl 0 rfl) ?_
                      refine o_get hx hb hts hown hK hW (inMod_o h_p0) rfl ig9 12 (by decide) fl_X9_159 rfl dX9_next_214 ?_
                      refine lv_goto (tgt := 238) hx hb dX9_next_217 (by decide) ?_
                      exact J238 p0_12_26 H locs hW hS ls (lv_sub hl [0] rfl) hR
              exact L192 4000 p0_9_1 (0 : Int32) Ω_9 H locs (by omega) h_p0 hE hW hS ls (lv_sub hl [0] rfl) hR
          · rw [if_neg c_14] at hR
            have i_14 := rne c_14
            have b_c_14 := rHere c_14
            have L67 : ∀ (n_61 : Nat) (p0_9_60 : Int32) (p0_12_60 : Int32) (Ω_62 : Om) (H : Heap) (locs : List Loc), (0 ≤ p0_9_60.toInt ∧ p0_9_60.toInt ≤ p0_8.toInt ∧ 160 - p0_9_60.toInt < n_61) → inMod G Ω_62 p0 p0_0 p0_1 p0_2 p0_3 p0_4 p0_5 p0_6 p0_7 p0_8 p0_9_60 p0_9_1 p0_11 p0_12_60 p0_13 → (∀ q : Nat, (q < p0 ∨ p0 + 8 ≤ q) → Ω_62 q = Ω q) → oW G A Ω_62 H → va_S A s.heap H locs → ∀ ls : Array Slot, lv_has ls 2 [(0, .ref p0)] → (f_X9_next_L67 p0_7 p0_8 p0_9_1 n_61 p0_9_60 p0_12_60) = R → W p l e (headSpec (wz yX9_next cX9_next 2 none) ({ frames := 2, cells := 0, slots := 0, locals := 44 } : Room)).room s m ([.ref p0] : List Value).toArray below meth c H locs 0 0 (MQ below (va_Qv (fun (Ω1 : Om) => inMod G Ω1 p0 p0_0 p0_1 p0_2 p0_3 p0_4 p0_5 p0_6 p0_7 p0_8 (R.1) (R.2.1) (R.2.2.1) (R.2.2.2) p0_13 ∧ (∀ q : Nat, (q < p0 ∨ p0 + 8 ≤ q) → Ω1 q = Ω q)) (oB G A) A) ([.ref p0] : List Value).toArray s 0 0 A) (F0 m 67 ls []) := by
              intro n_61
              induction n_61 with
              | zero =>
                intro p0_9_60 p0_12_60 Ω_62 H locs v_67_0 h_p0 hE hW hS ls hl hR
                exfalso
                omega
              | succ n_61 ih67 =>
                intro p0_9_60 p0_12_60 Ω_62 H locs v_67_0 h_p0 hE hW hS ls hl hR
                rw [f_X9_next_L67] at hR
                refine lv_aload_n hx hb dX9_next_67 rfl (lv_at hl 0 rfl) ?_
                refine lv_bipush (v := (48 : Int32)) hx hb dX9_next_68 (by decide) ?_
                refine lv_bipush (v := (57 : Int32)) hx hb dX9_next_70 (by decide) ?_
                refine o_ViR (rest := []) (As := [.int (48 : Int32), .int (57 : Int32)]) (n := 2) hx hb hml hown hts hK hN hZ hW hS hA (c_X9_isHere l G A Ω_62 p0 p0_0 p0_1 p0_2 p0_3 p0_4 p0_5 p0_6 p0_7 p0_8 p0_9_60 p0_9_1 p0_11 p0_12_60 p0_13 (48 : Int32) (57 : Int32) (by omega) (by omega) h_p0) (inMod_o h_p0) rfl (good_V ml_X9_153 im_X9_isHere se_X9_isHere ini_X9 co_X9_isHere) (by decide +kernel) ⟨Nat.zero_le _, Nat.zero_le _⟩ hl.1 (Nat.le_of_ble_eq_true rfl) rfl rfl dX9_next_72 (fun r H locs hp hW hS => ?_)
                obtain ⟨rfl, hz_63⟩ := hp
                refine lv_if_eq (tgt := 132) hx hb dX9_next_75 (by decide) (fun c_64 => ?_) (fun c_64 => ?_)
                · rw [if_pos c_64] at hR
                  have i_64 := congrArg Int32.toInt c_64
                  refine lv_aload_n hx hb dX9_next_132 rfl (lv_at hl 0 rfl) ?_
                  refine lv_aload_n hx hb dX9_next_133 rfl (lv_at hl 0 rfl) ?_
                  refine o_get hx hb hts hown hK hW (inMod_o h_p0) rfl ig9 12 (by decide) fl_X9_159 rfl dX9_next_134 ?_
                  refine lv_sipush (v := (255 : Int32)) hx hb dX9_next_137 (by decide) ?_
                  have j_66 : (255 : Int32).toInt = 255 := by decide
                  refine lv_icmp_gt (tgt := 170) hx hb dX9_next_140 (by decide) (fun c_65 => ?_) (fun c_65 => ?_)
                  · rw [if_pos c_65] at hR
                    have i_65 := rlt c_65
                    refine lv_iconst (v := (2 : Int32)) hx hb dX9_next_170 (by decide) ?_
                    refine lv_goto (tgt := 175) hx hb dX9_next_171 (by decide) ?_
                    refine vMod_11 hx hb hts hown hK hW hS hA h_p0 fl_X9_162 dX9_next_175 (fun Ω_67 H locs h_p0 hF_67 hW hS => ?_)
                    have hE : ∀ q : Nat, (q < p0 ∨ p0 + 8 ≤ q) → Ω_67 q = Ω q := fun q g0 => (hF_67 q (by omega)).trans (hE q g0)
                    refine lv_goto (tgt := 366) hx hb dX9_next_178 (by decide) ?_
                    subst hR
                    exact W.vret hx hb hr (fun t ht hW9 => ⟨⟨Ω_67, rfl, ⟨h_p0, hE⟩, by rw [oB, ht]; exact hW⟩, hS.F ht⟩) hS.2.2 dX9_next_366
                  · rw [if_neg c_65] at hR
                    have i_65 := rnlt c_65
                    refine lv_aload_n hx hb dX9_next_143 rfl (lv_at hl 0 rfl) ?_
                    refine o_get hx hb hts hown hK hW (inMod_o h_p0) rfl ig9 7 (by decide) fl_X9_29 rfl dX9_next_144 ?_
                    refine lv_aload_n hx hb dX9_next_147 rfl (lv_at hl 0 rfl) ?_
                    refine o_get hx hb hts hown hK hW (inMod_o h_p0) rfl ig9 10 (by decide) fl_X9_156 rfl dX9_next_148 ?_
                    refine o_iald hx hb hK hW (inMod_a6 h_p0) (vp_in_iff.mpr ⟨by omega, by omega⟩) dX9_next_151 ?_
                    refine lv_bipush (v := (48 : Int32)) hx hb dX9_next_152 (by decide) ?_
                    refine lv_icmp_ne (tgt := 174) hx hb dX9_next_154 (by decide) (fun c_68 => ?_) (fun c_68 => ?_)
                    · rw [if_neg c_68] at hR
                      have i_68 := rne c_68
                      refine lv_iconst (v := (1 : Int32)) hx hb dX9_next_174 (by decide) ?_
                      refine vMod_11 hx hb hts hown hK hW hS hA h_p0 fl_X9_162 dX9_next_175 (fun Ω_69 H locs h_p0 hF_69 hW hS => ?_)
                      have hE : ∀ q : Nat, (q < p0 ∨ p0 + 8 ≤ q) → Ω_69 q = Ω q := fun q g0 => (hF_69 q (by omega)).trans (hE q g0)
                      refine lv_goto (tgt := 366) hx hb dX9_next_178 (by decide) ?_
                      subst hR
                      exact W.vret hx hb hr (fun t ht hW9 => ⟨⟨Ω_69, rfl, ⟨h_p0, hE⟩, by rw [oB, ht]; exact hW⟩, hS.F ht⟩) hS.2.2 dX9_next_366
                    · rw [if_pos c_68] at hR
                      have i_68 := congrArg Int32.toInt c_68
                      refine lv_aload_n hx hb dX9_next_157 rfl (lv_at hl 0 rfl) ?_
                      refine o_get hx hb hts hown hK hW (inMod_o h_p0) rfl ig9 9 (by decide) fl_X9_150 rfl dX9_next_158 ?_
                      refine lv_aload_n hx hb dX9_next_161 rfl (lv_at hl 0 rfl) ?_
                      refine o_get hx hb hts hown hK hW (inMod_o h_p0) rfl ig9 10 (by decide) fl_X9_156 rfl dX9_next_162 ?_
                      refine lv_isub hx hb dX9_next_165 ?_
                      refine lv_iconst (v := (1 : Int32)) hx hb dX9_next_166 (by decide) ?_
                      try have j_71 : (p0_9_60 - p0_9_1).toInt = p0_9_60.toInt - p0_9_1.toInt := fb_subI (by omega) (by omega)
                      have j_72 : (1 : Int32).toInt = 1 := by decide
                      refine lv_icmp_le (tgt := 174) hx hb dX9_next_167 (by decide) (fun c_70 => ?_) (fun c_70 => ?_)
                      · rw [if_pos c_70] at hR
                        have i_70 := rle c_70
                        refine lv_iconst (v := (1 : Int32)) hx hb dX9_next_174 (by decide) ?_
                        refine vMod_11 hx hb hts hown hK hW hS hA h_p0 fl_X9_162 dX9_next_175 (fun Ω_73 H locs h_p0 hF_73 hW hS => ?_)
                        have hE : ∀ q : Nat, (q < p0 ∨ p0 + 8 ≤ q) → Ω_73 q = Ω q := fun q g0 => (hF_73 q (by omega)).trans (hE q g0)
                        refine lv_goto (tgt := 366) hx hb dX9_next_178 (by decide) ?_
                        subst hR
                        exact W.vret hx hb hr (fun t ht hW9 => ⟨⟨Ω_73, rfl, ⟨h_p0, hE⟩, by rw [oB, ht]; exact hW⟩, hS.F ht⟩) hS.2.2 dX9_next_366
                      · rw [if_neg c_70] at hR
                        have i_70 := rnle c_70
                        refine lv_iconst (v := (2 : Int32)) hx hb dX9_next_170 (by decide) ?_
                        refine lv_goto (tgt := 175) hx hb dX9_next_171 (by decide) ?_
                        refine vMod_11 hx hb hts hown hK hW hS hA h_p0 fl_X9_162 dX9_next_175 (fun Ω_74 H locs h_p0 hF_74 hW hS => ?_)
                        have hE : ∀ q : Nat, (q < p0 ∨ p0 + 8 ≤ q) → Ω_74 q = Ω q := fun q g0 => (hF_74 q (by omega)).trans (hE q g0)
                        refine lv_goto (tgt := 366) hx hb dX9_next_178 (by decide) ?_
                        subst hR
                        exact W.vret hx hb hr (fun t ht hW9 => ⟨⟨Ω_74, rfl, ⟨h_p0, hE⟩, by rw [oB, ht]; exact hW⟩, hS.F ht⟩) hS.2.2 dX9_next_366
                · rw [if_neg c_64] at hR
                  have i_64 := rne c_64
                  have b_c_64 := rHere c_64
                  refine lv_aload_n hx hb dX9_next_78 rfl (lv_at hl 0 rfl) ?_
                  refine lv_aload_n hx hb dX9_next_79 rfl (lv_at hl 0 rfl) ?_
                  refine o_get hx hb hts hown hK hW (inMod_o h_p0) rfl ig9 12 (by decide) fl_X9_159 rfl dX9_next_80 ?_
                  refine lv_sipush (v := (255 : Int32)) hx hb dX9_next_83 (by decide) ?_
                  have J116 : ∀ (s1_75 : Int32) (H : Heap) (locs : List Loc), oW G A Ω_62 H → va_S A s.heap H locs → ∀ ls : Array Slot, lv_has ls 2 [(0, .ref p0)] → (f_X9_next_J116 p0_9_60 (f_X9_next_L67 p0_7 p0_8 p0_9_1 n_61) s1_75) = R → W p l e (headSpec (wz yX9_next cX9_next 2 none) ({ frames := 2, cells := 0, slots := 0, locals := 44 } : Room)).room s m ([.ref p0] : List Value).toArray below meth c H locs 0 0 (MQ below (va_Qv (fun (Ω1 : Om) => inMod G Ω1 p0 p0_0 p0_1 p0_2 p0_3 p0_4 p0_5 p0_6 p0_7 p0_8 (R.1) (R.2.1) (R.2.2.1) (R.2.2.2) p0_13 ∧ (∀ q : Nat, (q < p0 ∨ p0 + 8 ≤ q) → Ω1 q = Ω q)) (oB G A) A) ([.ref p0] : List Value).toArray s 0 0 A) (F0 m 116 ls [.int s1_75, .ref p0]) := by
                    intro s1_75 H locs hW hS ls hl hR
                    rw [f_X9_next_J116] at hR
                    refine vMod_12 hx hb hts hown hK hW hS hA h_p0 fl_X9_159 dX9_next_116 (fun Ω_76 H locs h_p0 hF_76 hW hS => ?_)
                    have hE : ∀ q : Nat, (q < p0 ∨ p0 + 8 ≤ q) → Ω_76 q = Ω q := fun q g0 => (hF_76 q (by omega)).trans (hE q g0)
                    refine lv_aload_n hx hb dX9_next_119 rfl (lv_at hl 0 rfl) ?_
                    refine lv_dup hx hb dX9_next_120 rfl ?_
                    refine o_get hx hb hts hown hK hW (inMod_o h_p0) rfl ig9 9 (by decide) fl_X9_150 rfl dX9_next_121 ?_
                    refine lv_iconst (v := (1 : Int32)) hx hb dX9_next_124 (by decide) ?_
                    refine lv_iadd hx hb dX9_next_125 ?_
                    refine vMod_9 hx hb hts hown hK hW hS hA h_p0 fl_X9_150 dX9_next_126 (fun Ω_77 H locs h_p0 hF_77 hW hS => ?_)
                    have hE : ∀ q : Nat, (q < p0 ∨ p0 + 8 ≤ q) → Ω_77 q = Ω q := fun q g0 => (hF_77 q (by omega)).trans (hE q g0)
                    refine lv_goto (tgt := 67) hx hb dX9_next_129 (by decide) ?_
                    have j_78 : (1 : Int32).toInt = 1 := by decide
                    try have j_79 : (p0_9_60 + (1 : Int32)).toInt = p0_9_60.toInt + (1 : Int32).toInt := fb_addI (by omega) (by omega)
                    exact ih67 (p0_9_60 + (1 : Int32)) s1_75 Ω_77 H locs (by omega) h_p0 hE hW hS ls (lv_sub hl [0] rfl) hR
                  have j_81 : (255 : Int32).toInt = 255 := by decide
                  refine lv_icmp_le (tgt := 96) hx hb dX9_next_86 (by decide) (fun c_80 => ?_) (fun c_80 => ?_)
                  · rw [if_pos c_80] at hR
                    have i_80 := rle c_80
                    refine lv_bipush (v := (10 : Int32)) hx hb dX9_next_96 (by decide) ?_
                    refine lv_aload_n hx hb dX9_next_98 rfl (lv_at hl 0 rfl) ?_
                    refine o_get hx hb hts hown hK hW (inMod_o h_p0) rfl ig9 12 (by decide) fl_X9_159 rfl dX9_next_99 ?_
                    refine lv_imul hx hb dX9_next_102 ?_
                    refine lv_aload_n hx hb dX9_next_103 rfl (lv_at hl 0 rfl) ?_
                    refine o_get hx hb hts hown hK hW (inMod_o h_p0) rfl ig9 7 (by decide) fl_X9_29 rfl dX9_next_104 ?_
                    refine lv_aload_n hx hb dX9_next_107 rfl (lv_at hl 0 rfl) ?_
                    refine o_get hx hb hts hown hK hW (inMod_o h_p0) rfl ig9 9 (by decide) fl_X9_150 rfl dX9_next_108 ?_
                    refine o_iald hx hb hK hW (inMod_a6 h_p0) (vp_in_iff.mpr ⟨by omega, by omega⟩) dX9_next_111 ?_
                    refine lv_iadd hx hb dX9_next_112 ?_
                    refine lv_bipush (v := (48 : Int32)) hx hb dX9_next_113 (by decide) ?_
                    refine lv_isub hx hb dX9_next_115 ?_
                    have j_82 : (10 : Int32).toInt = 10 := by decide
                    try have j_83 : ((10 : Int32) * p0_12_60).toInt = 10 * p0_12_60.toInt := rg_mul2 (by decide) (by omega) (by omega)
                    try have j_84 : (((10 : Int32) * p0_12_60) + (p0_7 p0_9_60.toNatClampNeg)).toInt = ((10 : Int32) * p0_12_60).toInt + (p0_7 p0_9_60.toNatClampNeg).toInt := fb_addI (by omega) (by omega)
                    try have j_85 : ((((10 : Int32) * p0_12_60) + (p0_7 p0_9_60.toNatClampNeg)) - (48 : Int32)).toInt = (((10 : Int32) * p0_12_60) + (p0_7 p0_9_60.toNatClampNeg)).toInt - (48 : Int32).toInt := fb_subI (by omega) (by omega)
                    exact J116 ((((10 : Int32) * p0_12_60) + (p0_7 p0_9_60.toNatClampNeg)) - (48 : Int32)) H locs hW hS ls (lv_sub hl [0] rfl) hR
                  · rw [if_neg c_80] at hR
                    have i_80 := rnle c_80
                    refine lv_aload_n hx hb dX9_next_89 rfl (lv_at hl 0 rfl) ?_
                    refine o_get hx hb hts hown hK hW (inMod_o h_p0) rfl ig9 12 (by decide) fl_X9_159 rfl dX9_next_90 ?_
                    refine lv_goto (tgt := 116) hx hb dX9_next_93 (by decide) ?_
                    exact J116 p0_12_60 H locs hW hS ls (lv_sub hl [0] rfl) hR
            exact L67 4000 p0_9_1 (0 : Int32) Ω_9 H locs (by omega) h_p0 hE hW hS ls (lv_sub hl [0] rfl) hR
        · rw [if_pos c_10] at hR
          have i_10 := congrArg Int32.toInt c_10
          refine lv_aload_n hx hb dX9_next_48 rfl (lv_at hl 0 rfl) ?_
          refine lv_iconst (v := (0 : Int32)) hx hb dX9_next_49 (by decide) ?_
          refine vMod_11 hx hb hts hown hK hW hS hA h_p0 fl_X9_162 dX9_next_50 (fun Ω_86 H locs h_p0 hF_86 hW hS => ?_)
          have hE : ∀ q : Nat, (q < p0 ∨ p0 + 8 ≤ q) → Ω_86 q = Ω q := fun q g0 => (hF_86 q (by omega)).trans (hE q g0)
          refine lv_goto (tgt := 366) hx hb dX9_next_53 (by decide) ?_
          subst hR
          exact W.vret hx hb hr (fun t ht hW9 => ⟨⟨Ω_86, rfl, ⟨h_p0, hE⟩, by rw [oB, ht]; exact hW⟩, hS.F ht⟩) hS.2.2 dX9_next_366
      · rw [if_neg c_6] at hR
        have i_6 := rne c_6
        have b_c_6 := rHere c_6
        refine lv_aload_n hx hb dX9_next_11 rfl (lv_at hl 0 rfl) ?_
        refine lv_dup hx hb dX9_next_12 rfl ?_
        refine o_get hx hb hts hown hK hW (inMod_o h_p0) rfl ig9 9 (by decide) fl_X9_150 rfl dX9_next_13 ?_
        refine lv_iconst (v := (1 : Int32)) hx hb dX9_next_16 (by decide) ?_
        refine lv_iadd hx hb dX9_next_17 ?_
        refine vMod_9 hx hb hts hown hK hW hS hA h_p0 fl_X9_150 dX9_next_18 (fun Ω_87 H locs h_p0 hF_87 hW hS => ?_)
        have hE : ∀ q : Nat, (q < p0 ∨ p0 + 8 ≤ q) → Ω_87 q = Ω q := fun q g0 => (hF_87 q (by omega)).trans (hE q g0)
        refine lv_goto (tgt := 0) hx hb dX9_next_21 (by decide) ?_
        have j_88 : (1 : Int32).toInt = 1 := by decide
        try have j_89 : (p0_9_1 + (1 : Int32)).toInt = p0_9_1.toInt + (1 : Int32).toInt := fb_addI (by omega) (by omega)
        exact ih0 (p0_9_1 + (1 : Int32)) Ω_87 H locs (by omega) h_p0 hE hW hS ls (lv_sub hl [0] rfl) hR
  exact L0 4000 p0_9 Ω s.heap [] (by omega) h_p0 hE hW hS ls (lv_sub hl [0] rfl) hR
set_option maxHeartbeats 4000000 in
set_option maxRecDepth 100000 in
theorem c_X9_must (l : Launch) (G : Gm) (A : Nat → Prop) (Ω : Om) (p0 : Nat) (p0_0 : Fn) (p0_1 : Fn) (p0_2 : Fn) (p0_3 : Fn) (p0_4 : Int32) (p0_5 : Fn) (p0_6 : Fn) (p0_7 : Fn) (p0_8 : Int32) (p0_9 : Int32) (p0_10 : Int32) (p0_11 : Int32) (p0_12 : Int32) (p0_13 : Int32) (x1 : Int32) (hy : 0 ≤ p0_8.toInt ∧ p0_8.toInt ≤ 160) (ha : 0 ≤ p0_9.toInt ∧ p0_9.toInt ≤ p0_8.toInt) (hta : 0 ≤ p0_10.toInt) (h_p0 : inMod G Ω p0 p0_0 p0_1 p0_2 p0_3 p0_4 p0_5 p0_6 p0_7 p0_8 p0_9 p0_10 p0_11 p0_12 p0_13) : Met l yX9_must (wz yX9_must cX9_must 3 (some .int)) ({ frames := 3, cells := 0, slots := 0, locals := 65 } : Room) (va_Pc [.ref p0, .int x1] (oS G A Ω)) (va_Qi (fun (r : Int32) (Ω1 : Om) => r = (f_X9_must p0_7 p0_8 p0_9 p0_10 p0_11 p0_12 p0_13 x1).1 ∧ inMod G Ω1 p0 p0_0 p0_1 p0_2 p0_3 p0_4 p0_5 p0_6 p0_7 p0_8 ((f_X9_must p0_7 p0_8 p0_9 p0_10 p0_11 p0_12 p0_13 x1).2.1) ((f_X9_must p0_7 p0_8 p0_9 p0_10 p0_11 p0_12 p0_13 x1).2.2.1) ((f_X9_must p0_7 p0_8 p0_9 p0_10 p0_11 p0_12 p0_13 x1).2.2.2.1) ((f_X9_must p0_7 p0_8 p0_9 p0_10 p0_11 p0_12 p0_13 x1).2.2.2.2.1) ((f_X9_must p0_7 p0_8 p0_9 p0_10 p0_11 p0_12 p0_13 x1).2.2.2.2.2) ∧ (∀ q : Nat, (q < p0 ∨ p0 + 8 ≤ q) → Ω1 q = Ω q)) (oB G A) A) 0 0 A := by
  refine Met.ofW (cc := cX9_must) (maxL := 3) (ret := (some .int)) (by decide) rfl ?_
  intro p e s m args below meth c s₁ B hml hv
  obtain ⟨rfl, hW, hK, hN, hZ⟩ := hv
  have hx := B.exec
  have hb := B.bytes
  have hr := B.returns
  have hts : ∀ w ∈ gt, w.before _ s = true := fun w hw => atoms_spec (ws := wz yX9_must cX9_must 3 (some .int)) B.pre w (List.mem_cons_of_mem _ hw)
  have hown : s.vm.findClass RX9 = some m.cls := findClass_of_methodNamed B.named
  have hlocks := B.notSynchronized
  have hA : ∀ q, A q → A q := fun _ h => h
  have hS : va_S A s.heap s.heap [] := va_S.rf
  have hS0 := hS
  have hl := lv_entry ([.ref p0, .int x1]) (n := 3) (Nat.le_of_ble_eq_true rfl)
  rw [lg_entry_eq]
  generalize (lg_sl ([.ref p0, .int x1]) ++ List.replicate (3 - (lg_sl ([.ref p0, .int x1])).length) Slot.unset).toArray = ls at hl ⊢
  have hl : lv_has ls 3 [(0, .ref p0), (1, .int x1)] := hl
  have hE : ∀ q : Nat, (q < p0 ∨ p0 + 8 ≤ q) → Ω q = Ω q := by intros; rfl
  generalize hR : (f_X9_must p0_7 p0_8 p0_9 p0_10 p0_11 p0_12 p0_13 x1) = R
  rw [f_X9_must] at hR
  refine lv_aload_n hx hb dX9_must_0 rfl (lv_at hl 0 rfl) ?_
  refine o_get hx hb hts hown hK hW (inMod_o h_p0) rfl ig9 12 (by decide) fl_X9_159 rfl dX9_must_1 ?_
  refine lv_istore_n (lv' := [(2, .int p0_12), (0, .ref p0), (1, .int x1)]) hx hb dX9_must_4 rfl hl (by decide) rfl (fun ls hl => ?_)
  refine lv_aload_n hx hb dX9_must_5 rfl (lv_at hl 1 rfl) ?_
  refine o_get hx hb hts hown hK hW (inMod_o h_p0) rfl ig9 13 (by decide) fl_X9_169 rfl dX9_must_6 ?_
  refine lv_bipush (v := (-9 : Int32)) hx hb dX9_must_9 (by decide) ?_
  have j_2 : (-9 : Int32).toInt = -9 := by decide
  refine lv_icmp_ne (tgt := 33) hx hb dX9_must_11 (by decide) (fun c_1 => ?_) (fun c_1 => ?_)
  · rw [if_neg c_1] at hR
    have i_1 := rne c_1
    refine lv_iload_n hx hb dX9_must_33 rfl (lv_at hl 0 rfl) ?_
    subst hR
    exact W.iret (v := p0_12) hx hb hr (fun t ht hW9 => ⟨⟨p0_12, Ω, rfl, ⟨rfl, h_p0, hE⟩, by rw [oB, ht]; exact hW⟩, hS.F ht⟩) hS.2.2 dX9_must_34
  · rw [if_pos c_1] at hR
    have i_1 := congrArg Int32.toInt c_1
    refine lv_iload_n hx hb dX9_must_14 rfl (lv_at hl 2 rfl) ?_
    have j_4 : (0 : Int32).toInt = 0 := by decide
    refine lv_if_eq (tgt := 25) hx hb dX9_must_15 (by decide) (fun c_3 => ?_) (fun c_3 => ?_)
    · rw [if_pos c_3] at hR
      have i_3 := congrArg Int32.toInt c_3
      refine lv_aload_n hx hb dX9_must_25 rfl (lv_at hl 1 rfl) ?_
      refine lv_aload_n hx hb dX9_must_26 rfl (lv_at hl 1 rfl) ?_
      refine o_get hx hb hts hown hK hW (inMod_o h_p0) rfl ig9 10 (by decide) fl_X9_156 rfl dX9_must_27 ?_
      refine vMod_13 hx hb hts hown hK hW hS hA h_p0 fl_X9_169 dX9_must_30 (fun Ω_5 H locs h_p0 hF_5 hW hS => ?_)
      have hE : ∀ q : Nat, (q < p0 ∨ p0 + 8 ≤ q) → Ω_5 q = Ω q := fun q g0 => (hF_5 q (by omega)).trans (hE q g0)
      refine lv_iload_n hx hb dX9_must_33 rfl (lv_at hl 0 rfl) ?_
      subst hR
      exact W.iret (v := p0_12) hx hb hr (fun t ht hW9 => ⟨⟨p0_12, Ω_5, rfl, ⟨rfl, h_p0, hE⟩, by rw [oB, ht]; exact hW⟩, hS.F ht⟩) hS.2.2 dX9_must_34
    · rw [if_neg c_3] at hR
      have i_3 := rne c_3
      refine lv_aload_n hx hb dX9_must_18 rfl (lv_at hl 1 rfl) ?_
      refine o_Vv (rest := []) (As := []) (n := 0) hx hb hml hown hts hK hN hZ hW hS hA (c_X9_next l G A Ω p0 p0_0 p0_1 p0_2 p0_3 p0_4 p0_5 p0_6 p0_7 p0_8 p0_9 p0_10 p0_11 p0_12 p0_13 (by omega) (by omega) h_p0) (inMod_o h_p0) rfl (good_V ml_X9_172 im_X9_next se_X9_next ini_X9 co_X9_next) (by decide +kernel) ⟨Nat.zero_le _, Nat.zero_le _⟩ hl.1 (Nat.le_of_ble_eq_true rfl) rfl rfl dX9_must_19 (fun Ω_6 H locs hp hW hS => ?_)
      obtain ⟨h_p0, hF_6⟩ := hp
      have hE : ∀ q : Nat, (q < p0 ∨ p0 + 8 ≤ q) → Ω_6 q = Ω q := fun q g0 => (hF_6 q (by omega)).trans (hE q g0)
      have qx_6 : 0 ≤ (f_X9_next p0_7 p0_8 p0_9).2.1.toInt ∧ 0 ≤ p0_9.toInt ∧ p0_9.toInt ≤ (f_X9_next p0_7 p0_8 p0_9).1.toInt ∧ (f_X9_next p0_7 p0_8 p0_9).1.toInt ≤ p0_8.toInt ∧ ((f_X9_next p0_7 p0_8 p0_9).2.2.1.toInt = 0 ∨ p0_9.toInt < (f_X9_next p0_7 p0_8 p0_9).1.toInt) := R_next hy (by omega)
      generalize (f_X9_next p0_7 p0_8 p0_9) = Z_6 at h_p0 hR qx_6
      obtain ⟨z6_0, z6_1, z6_2, z6_3⟩ := Z_6
      dsimp only at h_p0 hR qx_6
      rw [f_X9_must_C22] at hR
      refine lv_goto (tgt := 33) hx hb dX9_must_22 (by decide) ?_
      refine lv_iload_n hx hb dX9_must_33 rfl (lv_at hl 0 rfl) ?_
      subst hR
      exact W.iret (v := p0_12) hx hb hr (fun t ht hW9 => ⟨⟨p0_12, Ω_6, rfl, ⟨rfl, h_p0, hE⟩, by rw [oB, ht]; exact hW⟩, hS.F ht⟩) hS.2.2 dX9_must_34
set_option maxHeartbeats 4000000 in
set_option maxRecDepth 100000 in
theorem c_X9_number (l : Launch) (G : Gm) (A : Nat → Prop) (Ω : Om) (p0 : Nat) (p0_0 : Fn) (p0_1 : Fn) (p0_2 : Fn) (p0_3 : Fn) (p0_4 : Int32) (p0_5 : Fn) (p0_6 : Fn) (p0_7 : Fn) (p0_8 : Int32) (p0_9 : Int32) (p0_10 : Int32) (p0_11 : Int32) (p0_12 : Int32) (p0_13 : Int32) (x1 : Int32) (x2 : Int32) (hy : 0 ≤ p0_8.toInt ∧ p0_8.toInt ≤ 160) (ha : 0 ≤ p0_9.toInt ∧ p0_9.toInt ≤ p0_8.toInt) (hta : 0 ≤ p0_10.toInt) (h_p0 : inMod G Ω p0 p0_0 p0_1 p0_2 p0_3 p0_4 p0_5 p0_6 p0_7 p0_8 p0_9 p0_10 p0_11 p0_12 p0_13) : Met l yX9_number (wz yX9_number cX9_number 3 (some .int)) ({ frames := 4, cells := 0, slots := 0, locals := 87 } : Room) (va_Pc [.ref p0, .int x1, .int x2] (oS G A Ω)) (va_Qi (fun (r : Int32) (Ω1 : Om) => r = (f_X9_number p0_7 p0_8 p0_9 p0_10 p0_11 p0_12 p0_13 x1 x2).1 ∧ inMod G Ω1 p0 p0_0 p0_1 p0_2 p0_3 p0_4 p0_5 p0_6 p0_7 p0_8 ((f_X9_number p0_7 p0_8 p0_9 p0_10 p0_11 p0_12 p0_13 x1 x2).2.1) ((f_X9_number p0_7 p0_8 p0_9 p0_10 p0_11 p0_12 p0_13 x1 x2).2.2.1) ((f_X9_number p0_7 p0_8 p0_9 p0_10 p0_11 p0_12 p0_13 x1 x2).2.2.2.1) ((f_X9_number p0_7 p0_8 p0_9 p0_10 p0_11 p0_12 p0_13 x1 x2).2.2.2.2.1) ((f_X9_number p0_7 p0_8 p0_9 p0_10 p0_11 p0_12 p0_13 x1 x2).2.2.2.2.2) ∧ (∀ q : Nat, (q < p0 ∨ p0 + 8 ≤ q) → Ω1 q = Ω q)) (oB G A) A) 0 0 A := by
  refine Met.ofW (cc := cX9_number) (maxL := 3) (ret := (some .int)) (by decide) rfl ?_
  intro p e s m args below meth c s₁ B hml hv
  obtain ⟨rfl, hW, hK, hN, hZ⟩ := hv
  have hx := B.exec
  have hb := B.bytes
  have hr := B.returns
  have hts : ∀ w ∈ gt, w.before _ s = true := fun w hw => atoms_spec (ws := wz yX9_number cX9_number 3 (some .int)) B.pre w (List.mem_cons_of_mem _ hw)
  have hown : s.vm.findClass RX9 = some m.cls := findClass_of_methodNamed B.named
  have hlocks := B.notSynchronized
  have hA : ∀ q, A q → A q := fun _ h => h
  have hS : va_S A s.heap s.heap [] := va_S.rf
  have hS0 := hS
  have hl := lv_entry ([.ref p0, .int x1, .int x2]) (n := 3) (Nat.le_of_ble_eq_true rfl)
  rw [lg_entry_eq]
  generalize (lg_sl ([.ref p0, .int x1, .int x2]) ++ List.replicate (3 - (lg_sl ([.ref p0, .int x1, .int x2])).length) Slot.unset).toArray = ls at hl ⊢
  have hl : lv_has ls 3 [(0, .ref p0), (1, .int x1), (2, .int x2)] := hl
  have hE : ∀ q : Nat, (q < p0 ∨ p0 + 8 ≤ q) → Ω q = Ω q := by intros; rfl
  generalize hR : (f_X9_number p0_7 p0_8 p0_9 p0_10 p0_11 p0_12 p0_13 x1 x2) = R
  rw [f_X9_number] at hR
  refine lv_aload_n hx hb dX9_number_0 rfl (lv_at hl 0 rfl) ?_
  refine lv_aload_n hx hb dX9_number_1 rfl (lv_at hl 0 rfl) ?_
  refine o_get hx hb hts hown hK hW (inMod_o h_p0) rfl ig9 11 (by decide) fl_X9_162 rfl dX9_number_2 ?_
  refine lv_iconst (v := (1 : Int32)) hx hb dX9_number_5 (by decide) ?_
  have J26 : ∀ (s1_1 : Int32) (H : Heap) (locs : List Loc), oW G A Ω H → va_S A s.heap H locs → ∀ ls : Array Slot, lv_has ls 3 [] → (f_X9_number_J26 p0_7 p0_8 p0_9 p0_10 p0_11 p0_12 p0_13 s1_1) = R → W p l e (headSpec (wz yX9_number cX9_number 3 (some .int)) ({ frames := 4, cells := 0, slots := 0, locals := 87 } : Room)).room s m ([.ref p0, .int x1, .int x2] : List Value).toArray below meth c H locs 0 0 (MQ below (va_Qi (fun (r : Int32) (Ω1 : Om) => r = R.1 ∧ inMod G Ω1 p0 p0_0 p0_1 p0_2 p0_3 p0_4 p0_5 p0_6 p0_7 p0_8 (R.2.1) (R.2.2.1) (R.2.2.2.1) (R.2.2.2.2.1) (R.2.2.2.2.2) ∧ (∀ q : Nat, (q < p0 ∨ p0 + 8 ≤ q) → Ω1 q = Ω q)) (oB G A) A) ([.ref p0, .int x1, .int x2] : List Value).toArray s 0 0 A) (F0 m 26 ls [.int s1_1, .ref p0]) := by
    intro s1_1 H locs hW hS ls hl hR
    rw [f_X9_number_J26] at hR
    refine o_Vi (rest := []) (As := [.int s1_1]) (n := 1) hx hb hml hown hts hK hN hZ hW hS hA (c_X9_must l G A Ω p0 p0_0 p0_1 p0_2 p0_3 p0_4 p0_5 p0_6 p0_7 p0_8 p0_9 p0_10 p0_11 p0_12 p0_13 s1_1 (by omega) (by omega) (by omega) h_p0) (inMod_o h_p0) rfl (good_V ml_X9_175 im_X9_must se_X9_must ini_X9 co_X9_must) (by decide +kernel) ⟨Nat.zero_le _, Nat.zero_le _⟩ hl.1 (Nat.le_of_ble_eq_true rfl) rfl rfl dX9_number_26 (fun r Ω_2 H locs hp hW hS => ?_)
    obtain ⟨rfl, h_p0, hF_2⟩ := hp
    have hE : ∀ q : Nat, (q < p0 ∨ p0 + 8 ≤ q) → Ω_2 q = Ω q := fun q g0 => (hF_2 q (by omega)).trans (hE q g0)
    have qm_2 : p0_9.toInt ≤ (f_X9_must p0_7 p0_8 p0_9 p0_10 p0_11 p0_12 p0_13 s1_1).2.1.toInt ∧ (f_X9_must p0_7 p0_8 p0_9 p0_10 p0_11 p0_12 p0_13 s1_1).2.1.toInt ≤ p0_8.toInt := (must_MR hy (by omega) (by omega)).1
    have qa_2 : 0 ≤ (f_X9_must p0_7 p0_8 p0_9 p0_10 p0_11 p0_12 p0_13 s1_1).2.2.1.toInt := (must_MR hy (by omega) (by omega)).2.1
    have qf_2 : (f_X9_must p0_7 p0_8 p0_9 p0_10 p0_11 p0_12 p0_13 s1_1).2.2.2.2.2.toInt ≠ -9 ∨ (p0_13.toInt = -9 ∧ ((f_X9_must p0_7 p0_8 p0_9 p0_10 p0_11 p0_12 p0_13 s1_1).2.2.2.1.toInt = 0 ∨ p0_9.toInt < (f_X9_must p0_7 p0_8 p0_9 p0_10 p0_11 p0_12 p0_13 s1_1).2.1.toInt)) := (must_MR hy (by omega) (by omega)).2.2
    have qs_2 : (f_X9_must p0_7 p0_8 p0_9 p0_10 p0_11 p0_12 p0_13 s1_1).2.2.2.2.2.toInt ≠ -9 ∨ s1_1.toInt ≠ 0 := must_is hy (by omega) (by omega)
    have qi_2 : (f_X9_must p0_7 p0_8 p0_9 p0_10 p0_11 p0_12 p0_13 s1_1).1.toInt = p0_12.toInt := congrArg Int32.toInt must_its
    generalize (f_X9_must p0_7 p0_8 p0_9 p0_10 p0_11 p0_12 p0_13 s1_1) = Z_2 at h_p0 hR qm_2 qa_2 qf_2 qs_2 qi_2 ⊢
    obtain ⟨z2_0, z2_1, z2_2, z2_3, z2_4, z2_5⟩ := Z_2
    dsimp only at h_p0 hR qm_2 qa_2 qf_2 qs_2 qi_2 ⊢
    rw [f_X9_number_C29] at hR
    subst hR
    exact W.iret (v := z2_0) hx hb hr (fun t ht hW9 => ⟨⟨z2_0, Ω_2, rfl, ⟨rfl, h_p0, hE⟩, by rw [oB, ht]; exact hW⟩, hS.F ht⟩) hS.2.2 dX9_number_29
  have J25 : ∀ (H : Heap) (locs : List Loc), oW G A Ω H → va_S A s.heap H locs → ∀ ls : Array Slot, lv_has ls 3 [] → (f_X9_number_J25 p0_7 p0_8 p0_9 p0_10 p0_11 p0_12 p0_13) = R → W p l e (headSpec (wz yX9_number cX9_number 3 (some .int)) ({ frames := 4, cells := 0, slots := 0, locals := 87 } : Room)).room s m ([.ref p0, .int x1, .int x2] : List Value).toArray below meth c H locs 0 0 (MQ below (va_Qi (fun (r : Int32) (Ω1 : Om) => r = R.1 ∧ inMod G Ω1 p0 p0_0 p0_1 p0_2 p0_3 p0_4 p0_5 p0_6 p0_7 p0_8 (R.2.1) (R.2.2.1) (R.2.2.2.1) (R.2.2.2.2.1) (R.2.2.2.2.2) ∧ (∀ q : Nat, (q < p0 ∨ p0 + 8 ≤ q) → Ω1 q = Ω q)) (oB G A) A) ([.ref p0, .int x1, .int x2] : List Value).toArray s 0 0 A) (F0 m 25 ls [.ref p0]) := by
    intro H locs hW hS ls hl hR
    rw [f_X9_number_J25] at hR
    refine lv_iconst (v := (0 : Int32)) hx hb dX9_number_25 (by decide) ?_
    have j_4 : (0 : Int32).toInt = 0 := by decide
    exact J26 (0 : Int32) H locs hW hS ls (lv_sub hl [] rfl) hR
  have j_6 : (1 : Int32).toInt = 1 := by decide
  refine lv_icmp_ne (tgt := 25) hx hb dX9_number_6 (by decide) (fun c_5 => ?_) (fun c_5 => ?_)
  · rw [if_neg c_5] at hR
    have i_5 := rne c_5
    exact J25 s.heap [] hW hS ls (lv_sub hl [] rfl) hR
  · rw [if_pos c_5] at hR
    have i_5 := congrArg Int32.toInt c_5
    refine lv_aload_n hx hb dX9_number_9 rfl (lv_at hl 0 rfl) ?_
    refine o_get hx hb hts hown hK hW (inMod_o h_p0) rfl ig9 12 (by decide) fl_X9_159 rfl dX9_number_10 ?_
    refine lv_iload_n hx hb dX9_number_13 rfl (lv_at hl 1 rfl) ?_
    refine lv_iload_n hx hb dX9_number_14 rfl (lv_at hl 2 rfl) ?_
    refine o_SiR (rest := [.ref p0]) (As := [.int p0_12, .int x1, .int x2]) (n := 3) hx hb hml hown hts hK hN hZ hW hS hA (c_X9_in l G A Ω p0_12 x1 x2) ml_X9_39 st_X9_in ini_X9 co_X9_in (by decide +kernel) ⟨Nat.zero_le _, Nat.zero_le _⟩ hl.1 (Nat.le_of_ble_eq_true rfl) rfl rfl dX9_number_15 (fun r H locs hp hW hS => ?_)
    obtain ⟨rfl, hz_7⟩ := hp
    have j_9 : (0 : Int32).toInt = 0 := by decide
    refine lv_if_eq (tgt := 25) hx hb dX9_number_18 (by decide) (fun c_8 => ?_) (fun c_8 => ?_)
    · rw [if_pos c_8] at hR
      have i_8 := congrArg Int32.toInt c_8
      exact J25 H locs hW hS ls (lv_sub hl [] rfl) hR
    · rw [if_neg c_8] at hR
      have i_8 := rne c_8
      have b_c_8 := rIN c_8
      refine lv_iconst (v := (1 : Int32)) hx hb dX9_number_21 (by decide) ?_
      refine lv_goto (tgt := 26) hx hb dX9_number_22 (by decide) ?_
      exact J26 (1 : Int32) H locs hW hS ls (lv_sub hl [] rfl) hR
set_option maxHeartbeats 4000000 in
set_option maxRecDepth 100000 in
theorem c_X9_usedBits (l : Launch) (G : Gm) (A : Nat → Prop) (Ω : Om) (p0 : Nat) (p0_0 : Fn) (p0_1 : Fn) (p0_2 : Fn) (p0_3 : Fn) (p0_4 : Int32) (p0_5 : Fn) (p0_6 : Fn) (p0_7 : Fn) (p0_8 : Int32) (p0_9 : Int32) (p0_10 : Int32) (p0_11 : Int32) (p0_12 : Int32) (p0_13 : Int32) (x1 : Int32) (hD : DraftInv p0_1) (h_p0 : inMod G Ω p0 p0_0 p0_1 p0_2 p0_3 p0_4 p0_5 p0_6 p0_7 p0_8 p0_9 p0_10 p0_11 p0_12 p0_13) : Met l yX9_usedBits (wz yX9_usedBits cX9_usedBits 5 (some .int)) ({ frames := 0, cells := 0, slots := 0, locals := 0 } : Room) (va_Pc [.ref p0, .int x1] (oS G A Ω)) (va_Qi (fun (r : Int32) (Ω1 : Om) => r = (f_X9_usedBits p0_1 x1) ∧ Ω1 = Ω) (oB G A) A) 0 0 A := by
  refine Met.ofW (cc := cX9_usedBits) (maxL := 5) (ret := (some .int)) (by decide) rfl ?_
  intro p e s m args below meth c s₁ B hml hv
  obtain ⟨rfl, hW, hK, hN, hZ⟩ := hv
  have hx := B.exec
  have hb := B.bytes
  have hr := B.returns
  have hts : ∀ w ∈ gt, w.before _ s = true := fun w hw => atoms_spec (ws := wz yX9_usedBits cX9_usedBits 5 (some .int)) B.pre w (List.mem_cons_of_mem _ hw)
  have hown : s.vm.findClass RX9 = some m.cls := findClass_of_methodNamed B.named
  have hlocks := B.notSynchronized
  have hA : ∀ q, A q → A q := fun _ h => h
  have hS : va_S A s.heap s.heap [] := va_S.rf
  have hS0 := hS
  have hl := lv_entry ([.ref p0, .int x1]) (n := 5) (Nat.le_of_ble_eq_true rfl)
  rw [lg_entry_eq]
  generalize (lg_sl ([.ref p0, .int x1]) ++ List.replicate (5 - (lg_sl ([.ref p0, .int x1])).length) Slot.unset).toArray = ls at hl ⊢
  have hl : lv_has ls 5 [(0, .ref p0), (1, .int x1)] := hl
  generalize hR : (f_X9_usedBits p0_1 x1) = R
  rw [f_X9_usedBits] at hR
  refine lv_iconst (v := (0 : Int32)) hx hb dX9_usedBits_0 (by decide) ?_
  refine lv_istore_n (lv' := [(2, .int (0 : Int32)), (0, .ref p0), (1, .int x1)]) hx hb dX9_usedBits_1 rfl hl (by decide) rfl (fun ls hl => ?_)
  refine lv_iconst (v := (0 : Int32)) hx hb dX9_usedBits_2 (by decide) ?_
  refine lv_istore_n (lv' := [(3, .int (0 : Int32)), (2, .int (0 : Int32)), (0, .ref p0), (1, .int x1)]) hx hb dX9_usedBits_3 rfl hl (by decide) rfl (fun ls hl => ?_)
  have L4 : ∀ (n_2 : Nat) (x2_1 : Int32) (x3_1 : Int32) (H : Heap) (locs : List Loc), (0 ≤ x3_1.toInt ∧ x3_1.toInt ≤ 91 ∧ 91 - x3_1.toInt < n_2) → oW G A Ω H → va_S A s.heap H locs → ∀ ls : Array Slot, lv_has ls 5 [(0, .ref p0), (1, .int x1), (2, .int x2_1), (3, .int x3_1)] → (f_X9_usedBits_L4 p0_1 x1 n_2 x2_1 x3_1) = R → W p l e (headSpec (wz yX9_usedBits cX9_usedBits 5 (some .int)) ({ frames := 0, cells := 0, slots := 0, locals := 0 } : Room)).room s m ([.ref p0, .int x1] : List Value).toArray below meth c H locs 0 0 (MQ below (va_Qi (fun (r : Int32) (Ω1 : Om) => r = R ∧ Ω1 = Ω) (oB G A) A) ([.ref p0, .int x1] : List Value).toArray s 0 0 A) (F0 m 4 ls []) := by
    intro n_2
    induction n_2 with
    | zero =>
      intro x2_1 x3_1 H locs v_4_0 hW hS ls hl hR
      exfalso
      omega
    | succ n_2 ih4 =>
      intro x2_1 x3_1 H locs v_4_0 hW hS ls hl hR
      rw [f_X9_usedBits_L4] at hR
      refine lv_iload_n hx hb dX9_usedBits_4 rfl (lv_at hl 3 rfl) ?_
      refine lv_aload_n hx hb dX9_usedBits_5 rfl (lv_at hl 0 rfl) ?_
      refine o_get hx hb hts hown hK hW (inMod_o h_p0) rfl ig9 1 (by decide) fl_X9_13 rfl dX9_usedBits_6 ?_
      refine lv_bipush (v := (91 : Int32)) hx hb dX9_usedBits_9 (by decide) ?_
      have j_3 : (91 : Int32).toInt = 91 := by decide
      refine o_iald hx hb hK hW (inMod_a1 h_p0) (vp_in_iff.mpr ⟨by omega, by omega⟩) dX9_usedBits_11 ?_
      try have j_5 : 0 ≤ (p0_1 (91 : Int32).toNatClampNeg).toInt ∧ (p0_1 (91 : Int32).toNatClampNeg).toInt ≤ 12 := DI_91 hD
      refine lv_icmp_ge (tgt := 72) hx hb dX9_usedBits_12 (by decide) (fun c_4 => ?_) (fun c_4 => ?_)
      · rw [if_pos c_4] at hR
        have i_4 := rle c_4
        refine lv_iload_n hx hb dX9_usedBits_72 rfl (lv_at hl 2 rfl) ?_
        subst hR
        exact W.iret (v := x2_1) hx hb hr (fun t ht hW9 => ⟨⟨x2_1, Ω, rfl, ⟨rfl, rfl⟩, by rw [oB, ht]; exact hW⟩, hS.F ht⟩) hS.2.2 dX9_usedBits_73
      · rw [if_neg c_4] at hR
        have i_4 := rnle c_4
        refine lv_aload_n hx hb dX9_usedBits_15 rfl (lv_at hl 0 rfl) ?_
        refine o_get hx hb hts hown hK hW (inMod_o h_p0) rfl ig9 1 (by decide) fl_X9_13 rfl dX9_usedBits_16 ?_
        refine lv_bipush (v := (30 : Int32)) hx hb dX9_usedBits_19 (by decide) ?_
        refine lv_iload_n hx hb dX9_usedBits_21 rfl (lv_at hl 3 rfl) ?_
        refine lv_iadd hx hb dX9_usedBits_22 ?_
        have j_6 : (30 : Int32).toInt = 30 := by decide
        try have j_7 : ((30 : Int32) + x3_1).toInt = (30 : Int32).toInt + x3_1.toInt := fb_addI (by omega) (by omega)
        refine o_iald hx hb hK hW (inMod_a1 h_p0) (vp_in_iff.mpr ⟨by omega, by omega⟩) dX9_usedBits_23 ?_
        refine lv_istore (lv' := [(4, .int (p0_1 ((30 : Int32) + x3_1).toNatClampNeg)), (0, .ref p0), (1, .int x1), (2, .int x2_1), (3, .int x3_1)]) hx hb dX9_usedBits_24 hl (by decide) rfl (fun ls hl => ?_)
        have L26 : ∀ (n_9 : Nat) (x2_8 : Int32) (x4_8 : Int32) (H : Heap) (locs : List Loc), (0 ≤ x4_8.toInt ∧ (x4_8.toInt ≤ 8 ∨ 1 ≤ n_9) ∧ (x4_8.toInt ≤ 8 ∧ 8 - x4_8.toInt < n_9 ∨ 8 < x4_8.toInt ∧ 1 ≤ n_9)) → oW G A Ω H → va_S A s.heap H locs → ∀ ls : Array Slot, lv_has ls 5 [(0, .ref p0), (1, .int x1), (2, .int x2_8), (3, .int x3_1), (4, .int x4_8)] → (f_X9_usedBits_L26 p0_1 x1 x3_1 (f_X9_usedBits_L4 p0_1 x1 n_2) n_9 x2_8 x4_8) = R → W p l e (headSpec (wz yX9_usedBits cX9_usedBits 5 (some .int)) ({ frames := 0, cells := 0, slots := 0, locals := 0 } : Room)).room s m ([.ref p0, .int x1] : List Value).toArray below meth c H locs 0 0 (MQ below (va_Qi (fun (r : Int32) (Ω1 : Om) => r = R ∧ Ω1 = Ω) (oB G A) A) ([.ref p0, .int x1] : List Value).toArray s 0 0 A) (F0 m 26 ls []) := by
          intro n_9
          induction n_9 with
          | zero =>
            intro x2_8 x4_8 H locs v_26_0 hW hS ls hl hR
            exfalso
            omega
          | succ n_9 ih26 =>
            intro x2_8 x4_8 H locs v_26_0 hW hS ls hl hR
            rw [f_X9_usedBits_L26] at hR
            refine lv_aload_n hx hb dX9_usedBits_26 rfl (lv_at hl 0 rfl) ?_
            refine o_get hx hb hts hown hK hW (inMod_o h_p0) rfl ig9 1 (by decide) fl_X9_13 rfl dX9_usedBits_27 ?_
            refine lv_bipush (v := (18 : Int32)) hx hb dX9_usedBits_30 (by decide) ?_
            refine lv_iload_n hx hb dX9_usedBits_32 rfl (lv_at hl 3 rfl) ?_
            refine lv_iadd hx hb dX9_usedBits_33 ?_
            have j_10 : (18 : Int32).toInt = 18 := by decide
            try have j_11 : ((18 : Int32) + x3_1).toInt = (18 : Int32).toInt + x3_1.toInt := fb_addI (by omega) (by omega)
            refine o_iald hx hb hK hW (inMod_a1 h_p0) (vp_in_iff.mpr ⟨by omega, by omega⟩) dX9_usedBits_34 ?_
            refine lv_iload_n hx hb dX9_usedBits_35 rfl (lv_at hl 1 rfl) ?_
            refine lv_icmp_ne (tgt := 66) hx hb dX9_usedBits_36 (by decide) (fun c_12 => ?_) (fun c_12 => ?_)
            · rw [if_neg c_12] at hR
              have i_12 := rne c_12
              refine lv_iinc (v := (x3_1 + (1 : Int32))) (lv' := [(3, .int (x3_1 + (1 : Int32))), (0, .ref p0), (1, .int x1), (2, .int x2_8), (4, .int x4_8)]) hx hb dX9_usedBits_66 hl (k := 3) rfl rfl (by decide) rfl (fun ls hl => ?_)
              refine lv_goto (tgt := 4) hx hb dX9_usedBits_69 (by decide) ?_
              have j_13 : (1 : Int32).toInt = 1 := by decide
              try have j_14 : (x3_1 + (1 : Int32)).toInt = x3_1.toInt + (1 : Int32).toInt := fb_addI (by omega) (by omega)
              exact ih4 x2_8 (x3_1 + (1 : Int32)) H locs (by omega) hW hS ls (lv_sub hl [1, 2, 3, 0] rfl) hR
            · rw [if_pos c_12] at hR
              have i_12 := congrArg Int32.toInt c_12
              refine lv_iload hx hb dX9_usedBits_39 (lv_at hl 4 rfl) ?_
              refine lv_aload_n hx hb dX9_usedBits_41 rfl (lv_at hl 0 rfl) ?_
              refine o_get hx hb hts hown hK hW (inMod_o h_p0) rfl ig9 1 (by decide) fl_X9_13 rfl dX9_usedBits_42 ?_
              refine lv_bipush (v := (42 : Int32)) hx hb dX9_usedBits_45 (by decide) ?_
              refine lv_iload_n hx hb dX9_usedBits_47 rfl (lv_at hl 3 rfl) ?_
              refine lv_iadd hx hb dX9_usedBits_48 ?_
              have j_15 : (42 : Int32).toInt = 42 := by decide
              try have j_16 : ((42 : Int32) + x3_1).toInt = (42 : Int32).toInt + x3_1.toInt := fb_addI (by omega) (by omega)
              refine o_iald hx hb hK hW (inMod_a1 h_p0) (vp_in_iff.mpr ⟨by omega, by omega⟩) dX9_usedBits_49 ?_
              try have j_18 : (p0_1 ((42 : Int32) + x3_1).toNatClampNeg).toInt ≤ 7 := (DI_lh hD (by omega) (by omega)).2
              refine lv_icmp_gt (tgt := 66) hx hb dX9_usedBits_50 (by decide) (fun c_17 => ?_) (fun c_17 => ?_)
              · rw [if_pos c_17] at hR
                have i_17 := rlt c_17
                refine lv_iinc (v := (x3_1 + (1 : Int32))) (lv' := [(3, .int (x3_1 + (1 : Int32))), (0, .ref p0), (1, .int x1), (2, .int x2_8), (4, .int x4_8)]) hx hb dX9_usedBits_66 hl (k := 3) rfl rfl (by decide) rfl (fun ls hl => ?_)
                refine lv_goto (tgt := 4) hx hb dX9_usedBits_69 (by decide) ?_
                have j_19 : (1 : Int32).toInt = 1 := by decide
                try have j_20 : (x3_1 + (1 : Int32)).toInt = x3_1.toInt + (1 : Int32).toInt := fb_addI (by omega) (by omega)
                exact ih4 x2_8 (x3_1 + (1 : Int32)) H locs (by omega) hW hS ls (lv_sub hl [1, 2, 3, 0] rfl) hR
              · rw [if_neg c_17] at hR
                have i_17 := rnlt c_17
                refine lv_iload_n hx hb dX9_usedBits_53 rfl (lv_at hl 2 rfl) ?_
                refine lv_iconst (v := (1 : Int32)) hx hb dX9_usedBits_54 (by decide) ?_
                refine lv_iload hx hb dX9_usedBits_55 (lv_at hl 4 rfl) ?_
                refine lv_ishl hx hb dX9_usedBits_57 ?_
                refine lv_ior hx hb dX9_usedBits_58 ?_
                refine lv_istore_n (lv' := [(2, .int (x2_8 ||| ((1 : Int32) <<< (x4_8 &&& 31)))), (0, .ref p0), (1, .int x1), (3, .int x3_1), (4, .int x4_8)]) hx hb dX9_usedBits_59 rfl hl (by decide) rfl (fun ls hl => ?_)
                refine lv_iinc (v := (x4_8 + (1 : Int32))) (lv' := [(4, .int (x4_8 + (1 : Int32))), (2, .int (x2_8 ||| ((1 : Int32) <<< (x4_8 &&& 31)))), (0, .ref p0), (1, .int x1), (3, .int x3_1)]) hx hb dX9_usedBits_60 hl (k := 4) rfl rfl (by decide) rfl (fun ls hl => ?_)
                refine lv_goto (tgt := 26) hx hb dX9_usedBits_63 (by decide) ?_
                have j_21 : (1 : Int32).toInt = 1 := by decide
                try have j_22 : (x4_8 + (1 : Int32)).toInt = x4_8.toInt + (1 : Int32).toInt := fb_addI (by omega) (by omega)
                exact ih26 (x2_8 ||| ((1 : Int32) <<< (x4_8 &&& 31))) (x4_8 + (1 : Int32)) H locs (by omega) hW hS ls (lv_sub hl [2, 3, 1, 4, 0] rfl) hR
        try have j_23 : 0 ≤ (p0_1 ((30 : Int32) + x3_1).toNatClampNeg).toInt := (DI_lh hD (by omega) (by omega)).1
        exact L26 4000 x2_1 (p0_1 ((30 : Int32) + x3_1).toNatClampNeg) H locs (by omega) hW hS ls (lv_sub hl [1, 2, 3, 4, 0] rfl) hR
  have j_24 : (0 : Int32).toInt = 0 := by decide
  exact L4 4000 (0 : Int32) (0 : Int32) s.heap [] (by omega) hW hS ls (lv_sub hl [2, 3, 1, 0] rfl) hR
set_option maxHeartbeats 4000000 in
set_option maxRecDepth 100000 in
theorem c_X9_readRegister (l : Launch) (G : Gm) (A : Nat → Prop) (Ω : Om) (p0 : Nat) (p0_0 : Fn) (p0_1 : Fn) (p0_2 : Fn) (p0_3 : Fn) (p0_4 : Int32) (p0_5 : Fn) (p0_6 : Fn) (p0_7 : Fn) (p0_8 : Int32) (p0_9 : Int32) (p0_10 : Int32) (p0_11 : Int32) (p0_12 : Int32) (p0_13 : Int32) (hy : 0 ≤ p0_8.toInt ∧ p0_8.toInt ≤ 160) (ha : 0 ≤ p0_9.toInt ∧ p0_9.toInt ≤ p0_8.toInt) (hta : 0 ≤ p0_10.toInt) (hD : DraftInv p0_1) (hr9 : (p0_1 (90 : Int32).toNatClampNeg).toInt < 6) (h_p0 : inMod G Ω p0 p0_0 p0_1 p0_2 p0_3 p0_4 p0_5 p0_6 p0_7 p0_8 p0_9 p0_10 p0_11 p0_12 p0_13) : Met l yX9_readRegister (wz yX9_readRegister cX9_readRegister 3 none) ({ frames := 5, cells := 0, slots := 0, locals := 109 } : Room) (va_Pc [.ref p0] (oS G A Ω)) (va_Qv (fun (Ω1 : Om) => inMod G Ω1 p0 p0_0 ((f_X9_readRegister p0_1 p0_7 p0_8 p0_9 p0_10 p0_11 p0_12 p0_13).1) p0_2 p0_3 p0_4 p0_5 p0_6 p0_7 p0_8 ((f_X9_readRegister p0_1 p0_7 p0_8 p0_9 p0_10 p0_11 p0_12 p0_13).2.1) ((f_X9_readRegister p0_1 p0_7 p0_8 p0_9 p0_10 p0_11 p0_12 p0_13).2.2.1) ((f_X9_readRegister p0_1 p0_7 p0_8 p0_9 p0_10 p0_11 p0_12 p0_13).2.2.2.1) ((f_X9_readRegister p0_1 p0_7 p0_8 p0_9 p0_10 p0_11 p0_12 p0_13).2.2.2.2.1) ((f_X9_readRegister p0_1 p0_7 p0_8 p0_9 p0_10 p0_11 p0_12 p0_13).2.2.2.2.2) ∧ (∀ q : Nat, (q < p0 ∨ p0 + 8 ≤ q) → Ω1 q = Ω q)) (oB G A) A) 0 0 A := by
  refine Met.ofW (cc := cX9_readRegister) (maxL := 3) (ret := none) (by decide) rfl ?_
  intro p e s m args below meth c s₁ B hml hv
  obtain ⟨rfl, hW, hK, hN, hZ⟩ := hv
  have hx := B.exec
  have hb := B.bytes
  have hr := B.returns
  have hts : ∀ w ∈ gt, w.before _ s = true := fun w hw => atoms_spec (ws := wz yX9_readRegister cX9_readRegister 3 none) B.pre w (List.mem_cons_of_mem _ hw)
  have hown : s.vm.findClass RX9 = some m.cls := findClass_of_methodNamed B.named
  have hlocks := B.notSynchronized
  have hA : ∀ q, A q → A q := fun _ h => h
  have hS : va_S A s.heap s.heap [] := va_S.rf
  have hS0 := hS
  have hl := lv_entry ([.ref p0]) (n := 3) (Nat.le_of_ble_eq_true rfl)
  rw [lg_entry_eq]
  generalize (lg_sl ([.ref p0]) ++ List.replicate (3 - (lg_sl ([.ref p0])).length) Slot.unset).toArray = ls at hl ⊢
  have hl : lv_has ls 3 [(0, .ref p0)] := hl
  have hE : ∀ q : Nat, (q < p0 ∨ p0 + 8 ≤ q) → Ω q = Ω q := by intros; rfl
  generalize hR : (f_X9_readRegister p0_1 p0_7 p0_8 p0_9 p0_10 p0_11 p0_12 p0_13) = R
  rw [f_X9_readRegister] at hR
  refine lv_aload_n hx hb dX9_readRegister_0 rfl (lv_at hl 0 rfl) ?_
  refine o_get hx hb hts hown hK hW (inMod_o h_p0) rfl ig9 1 (by decide) fl_X9_13 rfl dX9_readRegister_1 ?_
  refine lv_bipush (v := (90 : Int32)) hx hb dX9_readRegister_4 (by decide) ?_
  have j_1 : (90 : Int32).toInt = 90 := by decide
  refine o_iald hx hb hK hW (inMod_a1 h_p0) (vp_in_iff.mpr ⟨by omega, by omega⟩) dX9_readRegister_6 ?_
  refine lv_istore_n (lv' := [(1, .int (p0_1 (90 : Int32).toNatClampNeg)), (0, .ref p0)]) hx hb dX9_readRegister_7 rfl hl (by decide) rfl (fun ls hl => ?_)
  refine lv_aload_n hx hb dX9_readRegister_8 rfl (lv_at hl 1 rfl) ?_
  refine lv_iconst (v := (0 : Int32)) hx hb dX9_readRegister_9 (by decide) ?_
  refine lv_bipush (v := (15 : Int32)) hx hb dX9_readRegister_10 (by decide) ?_
  have j_2 : (0 : Int32).toInt = 0 := by decide
  have j_3 : (15 : Int32).toInt = 15 := by decide
  refine o_Vi (rest := []) (As := [.int (0 : Int32), .int (15 : Int32)]) (n := 2) hx hb hml hown hts hK hN hZ hW hS hA (c_X9_number l G A Ω p0 p0_0 p0_1 p0_2 p0_3 p0_4 p0_5 p0_6 p0_7 p0_8 p0_9 p0_10 p0_11 p0_12 p0_13 (0 : Int32) (15 : Int32) (by omega) (by omega) (by omega) h_p0) (inMod_o h_p0) rfl (good_V ml_X9_179 im_X9_number se_X9_number ini_X9 co_X9_number) (by decide +kernel) ⟨Nat.zero_le _, Nat.zero_le _⟩ hl.1 (Nat.le_of_ble_eq_true rfl) rfl rfl dX9_readRegister_12 (fun r Ω_4 H locs hp hW hS => ?_)
  obtain ⟨rfl, h_p0, hF_4⟩ := hp
  have hE : ∀ q : Nat, (q < p0 ∨ p0 + 8 ≤ q) → Ω_4 q = Ω q := fun q g0 => (hF_4 q (by omega)).trans (hE q g0)
  have qm_4 : p0_9.toInt ≤ (f_X9_number p0_7 p0_8 p0_9 p0_10 p0_11 p0_12 p0_13 (0 : Int32) (15 : Int32)).2.1.toInt ∧ (f_X9_number p0_7 p0_8 p0_9 p0_10 p0_11 p0_12 p0_13 (0 : Int32) (15 : Int32)).2.1.toInt ≤ p0_8.toInt := (number_MR hy (by omega) (by omega)).1
  have qa_4 : 0 ≤ (f_X9_number p0_7 p0_8 p0_9 p0_10 p0_11 p0_12 p0_13 (0 : Int32) (15 : Int32)).2.2.1.toInt := (number_MR hy (by omega) (by omega)).2.1
  have qf_4 : (f_X9_number p0_7 p0_8 p0_9 p0_10 p0_11 p0_12 p0_13 (0 : Int32) (15 : Int32)).2.2.2.2.2.toInt ≠ -9 ∨ (p0_13.toInt = -9 ∧ ((f_X9_number p0_7 p0_8 p0_9 p0_10 p0_11 p0_12 p0_13 (0 : Int32) (15 : Int32)).2.2.2.1.toInt = 0 ∨ p0_9.toInt < (f_X9_number p0_7 p0_8 p0_9 p0_10 p0_11 p0_12 p0_13 (0 : Int32) (15 : Int32)).2.1.toInt)) := (number_MR hy (by omega) (by omega)).2.2
  have qn_4 : (f_X9_number p0_7 p0_8 p0_9 p0_10 p0_11 p0_12 p0_13 (0 : Int32) (15 : Int32)).2.2.2.2.2.toInt ≠ -9 ∨ ((0 : Int32).toInt ≤ (f_X9_number p0_7 p0_8 p0_9 p0_10 p0_11 p0_12 p0_13 (0 : Int32) (15 : Int32)).1.toInt ∧ (f_X9_number p0_7 p0_8 p0_9 p0_10 p0_11 p0_12 p0_13 (0 : Int32) (15 : Int32)).1.toInt ≤ (15 : Int32).toInt) := number_ok hy (by omega) (by omega)
  generalize (f_X9_number p0_7 p0_8 p0_9 p0_10 p0_11 p0_12 p0_13 (0 : Int32) (15 : Int32)) = Z_4 at h_p0 hR qm_4 qa_4 qf_4 qn_4 ⊢
  obtain ⟨z4_0, z4_1, z4_2, z4_3, z4_4, z4_5⟩ := Z_4
  dsimp only at h_p0 hR qm_4 qa_4 qf_4 qn_4 ⊢
  rw [f_X9_readRegister_C15] at hR
  refine lv_istore_n (lv' := [(2, .int z4_0), (1, .int (p0_1 (90 : Int32).toNatClampNeg)), (0, .ref p0)]) hx hb dX9_readRegister_15 rfl hl (by decide) rfl (fun ls hl => ?_)
  refine lv_aload_n hx hb dX9_readRegister_16 rfl (lv_at hl 2 rfl) ?_
  refine o_get hx hb hts hown hK hW (inMod_o h_p0) rfl ig9 13 (by decide) fl_X9_169 rfl dX9_readRegister_17 ?_
  refine lv_bipush (v := (-9 : Int32)) hx hb dX9_readRegister_20 (by decide) ?_
  have j_6 : (-9 : Int32).toInt = -9 := by decide
  refine lv_icmp_ne (tgt := 67) hx hb dX9_readRegister_22 (by decide) (fun c_5 => ?_) (fun c_5 => ?_)
  · rw [if_neg c_5] at hR
    have i_5 := rne c_5
    subst hR
    exact W.vret hx hb hr (fun t ht hW9 => ⟨⟨Ω_4, rfl, ⟨h_p0, hE⟩, by rw [oB, ht]; exact hW⟩, hS.F ht⟩) hS.2.2 dX9_readRegister_67
  · rw [if_pos c_5] at hR
    have i_5 := congrArg Int32.toInt c_5
    refine lv_aload_n hx hb dX9_readRegister_25 rfl (lv_at hl 2 rfl) ?_
    refine o_get hx hb hts hown hK hW (inMod_o h_p0) rfl ig9 1 (by decide) fl_X9_13 rfl dX9_readRegister_26 ?_
    refine lv_iconst (v := (0 : Int32)) hx hb dX9_readRegister_29 (by decide) ?_
    refine lv_iload_n hx hb dX9_readRegister_30 rfl (lv_at hl 1 rfl) ?_
    refine lv_iadd hx hb dX9_readRegister_31 ?_
    refine lv_iload_n hx hb dX9_readRegister_32 rfl (lv_at hl 0 rfl) ?_
    try have j_7 : 0 ≤ (p0_1 (90 : Int32).toNatClampNeg).toInt ∧ (p0_1 (90 : Int32).toNatClampNeg).toInt ≤ 6 := DI_90 hD
    try have j_8 : ((0 : Int32) + (p0_1 (90 : Int32).toNatClampNeg)).toInt = (0 : Int32).toInt + (p0_1 (90 : Int32).toNatClampNeg).toInt := fb_addI (by omega) (by omega)
    refine wMod_1 hx hb hK hW hS hA h_p0 (vp_in_iff.mpr ⟨by omega, by omega⟩) dX9_readRegister_33 (fun Ω_9 H locs h_p0 hF_9 hW hS => ?_)
    have hE : ∀ q : Nat, (q < p0 ∨ p0 + 8 ≤ q) → Ω_9 q = Ω q := fun q g0 => (hF_9 q (by omega)).trans (hE q g0)
    refine lv_aload_n hx hb dX9_readRegister_34 rfl (lv_at hl 2 rfl) ?_
    refine o_get hx hb hts hown hK hW (inMod_o h_p0) rfl ig9 1 (by decide) fl_X9_13 rfl dX9_readRegister_35 ?_
    refine lv_bipush (v := (6 : Int32)) hx hb dX9_readRegister_38 (by decide) ?_
    refine lv_iload_n hx hb dX9_readRegister_40 rfl (lv_at hl 1 rfl) ?_
    refine lv_iadd hx hb dX9_readRegister_41 ?_
    refine lv_bipush (v := (-9 : Int32)) hx hb dX9_readRegister_42 (by decide) ?_
    have j_10 : (6 : Int32).toInt = 6 := by decide
    try have j_11 : ((6 : Int32) + (p0_1 (90 : Int32).toNatClampNeg)).toInt = (6 : Int32).toInt + (p0_1 (90 : Int32).toNatClampNeg).toInt := fb_addI (by omega) (by omega)
    refine wMod_1 hx hb hK hW hS hA h_p0 (vp_in_iff.mpr ⟨by omega, by omega⟩) dX9_readRegister_44 (fun Ω_12 H locs h_p0 hF_12 hW hS => ?_)
    have hE : ∀ q : Nat, (q < p0 ∨ p0 + 8 ≤ q) → Ω_12 q = Ω q := fun q g0 => (hF_12 q (by omega)).trans (hE q g0)
    refine lv_aload_n hx hb dX9_readRegister_45 rfl (lv_at hl 2 rfl) ?_
    refine o_get hx hb hts hown hK hW (inMod_o h_p0) rfl ig9 1 (by decide) fl_X9_13 rfl dX9_readRegister_46 ?_
    refine lv_bipush (v := (12 : Int32)) hx hb dX9_readRegister_49 (by decide) ?_
    refine lv_iload_n hx hb dX9_readRegister_51 rfl (lv_at hl 1 rfl) ?_
    refine lv_iadd hx hb dX9_readRegister_52 ?_
    refine lv_bipush (v := (-9 : Int32)) hx hb dX9_readRegister_53 (by decide) ?_
    have j_13 : (12 : Int32).toInt = 12 := by decide
    try have j_14 : ((12 : Int32) + (p0_1 (90 : Int32).toNatClampNeg)).toInt = (12 : Int32).toInt + (p0_1 (90 : Int32).toNatClampNeg).toInt := fb_addI (by omega) (by omega)
    refine wMod_1 hx hb hK hW hS hA h_p0 (vp_in_iff.mpr ⟨by omega, by omega⟩) dX9_readRegister_55 (fun Ω_15 H locs h_p0 hF_15 hW hS => ?_)
    have hE : ∀ q : Nat, (q < p0 ∨ p0 + 8 ≤ q) → Ω_15 q = Ω q := fun q g0 => (hF_15 q (by omega)).trans (hE q g0)
    refine lv_aload_n hx hb dX9_readRegister_56 rfl (lv_at hl 2 rfl) ?_
    refine o_get hx hb hts hown hK hW (inMod_o h_p0) rfl ig9 1 (by decide) fl_X9_13 rfl dX9_readRegister_57 ?_
    refine lv_bipush (v := (90 : Int32)) hx hb dX9_readRegister_60 (by decide) ?_
    refine lv_dup2_11 hx hb dX9_readRegister_62 rfl rfl ?_
    refine o_iald hx hb hK hW (inMod_a1 h_p0) (vp_in_iff.mpr ⟨by omega, by omega⟩) dX9_readRegister_63 ?_
    refine lv_iconst (v := (1 : Int32)) hx hb dX9_readRegister_64 (by decide) ?_
    refine lv_iadd hx hb dX9_readRegister_65 ?_
    refine wMod_1 hx hb hK hW hS hA h_p0 (vp_in_iff.mpr ⟨by omega, by omega⟩) dX9_readRegister_66 (fun Ω_16 H locs h_p0 hF_16 hW hS => ?_)
    have hE : ∀ q : Nat, (q < p0 ∨ p0 + 8 ≤ q) → Ω_16 q = Ω q := fun q g0 => (hF_16 q (by omega)).trans (hE q g0)
    subst hR
    exact W.vret hx hb hr (fun t ht hW9 => ⟨⟨Ω_16, rfl, ⟨h_p0, hE⟩, by rw [oB, ht]; exact hW⟩, hS.F ht⟩) hS.2.2 dX9_readRegister_67
set_option maxHeartbeats 4000000 in
set_option maxRecDepth 100000 in
theorem c_X9_readField (l : Launch) (G : Gm) (A : Nat → Prop) (Ω : Om) (p0 : Nat) (p0_0 : Fn) (p0_1 : Fn) (p0_2 : Fn) (p0_3 : Fn) (p0_4 : Int32) (p0_5 : Fn) (p0_6 : Fn) (p0_7 : Fn) (p0_8 : Int32) (p0_9 : Int32) (p0_10 : Int32) (p0_11 : Int32) (p0_12 : Int32) (p0_13 : Int32) (hy : 0 ≤ p0_8.toInt ∧ p0_8.toInt ≤ 160) (ha : 0 ≤ p0_9.toInt ∧ p0_9.toInt ≤ p0_8.toInt) (hta : 0 ≤ p0_10.toInt) (hD : DraftInv p0_1) (h90 : 1 ≤ (p0_1 (90 : Int32).toNatClampNeg).toInt) (h91 : (p0_1 (91 : Int32).toNatClampNeg).toInt < 12) (h_p0 : inMod G Ω p0 p0_0 p0_1 p0_2 p0_3 p0_4 p0_5 p0_6 p0_7 p0_8 p0_9 p0_10 p0_11 p0_12 p0_13) : Met l yX9_readField (wz yX9_readField cX9_readField 8 none) ({ frames := 5, cells := 0, slots := 0, locals := 109 } : Room) (va_Pc [.ref p0] (oS G A Ω)) (va_Qv (fun (Ω1 : Om) => inMod G Ω1 p0 p0_0 ((f_X9_readField p0_1 p0_7 p0_8 p0_9 p0_10 p0_11 p0_12 p0_13).1) p0_2 p0_3 p0_4 p0_5 p0_6 p0_7 p0_8 ((f_X9_readField p0_1 p0_7 p0_8 p0_9 p0_10 p0_11 p0_12 p0_13).2.1) ((f_X9_readField p0_1 p0_7 p0_8 p0_9 p0_10 p0_11 p0_12 p0_13).2.2.1) ((f_X9_readField p0_1 p0_7 p0_8 p0_9 p0_10 p0_11 p0_12 p0_13).2.2.2.1) ((f_X9_readField p0_1 p0_7 p0_8 p0_9 p0_10 p0_11 p0_12 p0_13).2.2.2.2.1) ((f_X9_readField p0_1 p0_7 p0_8 p0_9 p0_10 p0_11 p0_12 p0_13).2.2.2.2.2) ∧ (∀ q : Nat, (q < p0 ∨ p0 + 8 ≤ q) → Ω1 q = Ω q)) (oB G A) A) 0 0 A := by
  refine Met.ofW (cc := cX9_readField) (maxL := 8) (ret := none) (by decide) rfl ?_
  intro p e s m args below meth c s₁ B hml hv
  obtain ⟨rfl, hW, hK, hN, hZ⟩ := hv
  have hx := B.exec
  have hb := B.bytes
  have hr := B.returns
  have hts : ∀ w ∈ gt, w.before _ s = true := fun w hw => atoms_spec (ws := wz yX9_readField cX9_readField 8 none) B.pre w (List.mem_cons_of_mem _ hw)
  have hown : s.vm.findClass RX9 = some m.cls := findClass_of_methodNamed B.named
  have hlocks := B.notSynchronized
  have hA : ∀ q, A q → A q := fun _ h => h
  have hS : va_S A s.heap s.heap [] := va_S.rf
  have hS0 := hS
  have hl := lv_entry ([.ref p0]) (n := 8) (Nat.le_of_ble_eq_true rfl)
  rw [lg_entry_eq]
  generalize (lg_sl ([.ref p0]) ++ List.replicate (8 - (lg_sl ([.ref p0])).length) Slot.unset).toArray = ls at hl ⊢
  have hl : lv_has ls 8 [(0, .ref p0)] := hl
  have hE : ∀ q : Nat, (q < p0 ∨ p0 + 8 ≤ q) → Ω q = Ω q := by intros; rfl
  generalize hR : (f_X9_readField p0_1 p0_7 p0_8 p0_9 p0_10 p0_11 p0_12 p0_13) = R
  rw [f_X9_readField] at hR
  refine lv_aload_n hx hb dX9_readField_0 rfl (lv_at hl 0 rfl) ?_
  refine o_get hx hb hts hown hK hW (inMod_o h_p0) rfl ig9 1 (by decide) fl_X9_13 rfl dX9_readField_1 ?_
  refine lv_bipush (v := (90 : Int32)) hx hb dX9_readField_4 (by decide) ?_
  have j_1 : (90 : Int32).toInt = 90 := by decide
  refine o_iald hx hb hK hW (inMod_a1 h_p0) (vp_in_iff.mpr ⟨by omega, by omega⟩) dX9_readField_6 ?_
  refine lv_iconst (v := (1 : Int32)) hx hb dX9_readField_7 (by decide) ?_
  refine lv_isub hx hb dX9_readField_8 ?_
  refine lv_istore_n (lv' := [(1, .int ((p0_1 (90 : Int32).toNatClampNeg) - (1 : Int32))), (0, .ref p0)]) hx hb dX9_readField_9 rfl hl (by decide) rfl (fun ls hl => ?_)
  refine lv_aload_n hx hb dX9_readField_10 rfl (lv_at hl 1 rfl) ?_
  refine lv_iload_n hx hb dX9_readField_11 rfl (lv_at hl 0 rfl) ?_
  try have j_2 : 0 ≤ (p0_1 (90 : Int32).toNatClampNeg).toInt ∧ (p0_1 (90 : Int32).toNatClampNeg).toInt ≤ 6 := DI_90 hD
  have j_3 : (1 : Int32).toInt = 1 := by decide
  try have j_4 : ((p0_1 (90 : Int32).toNatClampNeg) - (1 : Int32)).toInt = (p0_1 (90 : Int32).toNatClampNeg).toInt - (1 : Int32).toInt := fb_subI (by omega) (by omega)
  refine o_ViR (rest := []) (As := [.int ((p0_1 (90 : Int32).toNatClampNeg) - (1 : Int32))]) (n := 1) hx hb hml hown hts hK hN hZ hW hS hA (c_X9_usedBits l G A Ω p0 p0_0 p0_1 p0_2 p0_3 p0_4 p0_5 p0_6 p0_7 p0_8 p0_9 p0_10 p0_11 p0_12 p0_13 ((p0_1 (90 : Int32).toNatClampNeg) - (1 : Int32)) (by assumption) h_p0) (inMod_o h_p0) rfl (good_V ml_X9_182 im_X9_usedBits se_X9_usedBits ini_X9 co_X9_usedBits) (by decide +kernel) ⟨Nat.zero_le _, Nat.zero_le _⟩ hl.1 (Nat.le_of_ble_eq_true rfl) rfl rfl dX9_readField_12 (fun r H locs hp hW hS => ?_)
  subst hp
  refine lv_istore_n (lv' := [(2, .int (f_X9_usedBits p0_1 ((p0_1 (90 : Int32).toNatClampNeg) - (1 : Int32)))), (1, .int ((p0_1 (90 : Int32).toNatClampNeg) - (1 : Int32))), (0, .ref p0)]) hx hb dX9_readField_15 rfl hl (by decide) rfl (fun ls hl => ?_)
  refine lv_aload_n hx hb dX9_readField_16 rfl (lv_at hl 2 rfl) ?_
  refine lv_aload_n hx hb dX9_readField_17 rfl (lv_at hl 2 rfl) ?_
  refine o_get hx hb hts hown hK hW (inMod_o h_p0) rfl ig9 11 (by decide) fl_X9_162 rfl dX9_readField_18 ?_
  refine lv_iconst (v := (4 : Int32)) hx hb dX9_readField_21 (by decide) ?_
  have J42 : ∀ (s1_6 : Int32) (H : Heap) (locs : List Loc), oW G A Ω H → va_S A s.heap H locs → ∀ ls : Array Slot, lv_has ls 8 [(0, .ref p0), (1, .int ((p0_1 (90 : Int32).toNatClampNeg) - (1 : Int32))), (2, .int (f_X9_usedBits p0_1 ((p0_1 (90 : Int32).toNatClampNeg) - (1 : Int32))))] → (f_X9_readField_J42 p0_1 p0_7 p0_8 p0_9 p0_10 p0_11 p0_12 p0_13 ((p0_1 (90 : Int32).toNatClampNeg) - (1 : Int32)) (f_X9_usedBits p0_1 ((p0_1 (90 : Int32).toNatClampNeg) - (1 : Int32))) s1_6) = R → W p l e (headSpec (wz yX9_readField cX9_readField 8 none) ({ frames := 5, cells := 0, slots := 0, locals := 109 } : Room)).room s m ([.ref p0] : List Value).toArray below meth c H locs 0 0 (MQ below (va_Qv (fun (Ω1 : Om) => inMod G Ω1 p0 p0_0 (R.1) p0_2 p0_3 p0_4 p0_5 p0_6 p0_7 p0_8 (R.2.1) (R.2.2.1) (R.2.2.2.1) (R.2.2.2.2.1) (R.2.2.2.2.2) ∧ (∀ q : Nat, (q < p0 ∨ p0 + 8 ≤ q) → Ω1 q = Ω q)) (oB G A) A) ([.ref p0] : List Value).toArray s 0 0 A) (F0 m 42 ls [.int s1_6, .ref p0]) := by
    intro s1_6 H locs hW hS ls hl hR
    rw [f_X9_readField_J42] at hR
    refine o_Vi (rest := []) (As := [.int s1_6]) (n := 1) hx hb hml hown hts hK hN hZ hW hS hA (c_X9_must l G A Ω p0 p0_0 p0_1 p0_2 p0_3 p0_4 p0_5 p0_6 p0_7 p0_8 p0_9 p0_10 p0_11 p0_12 p0_13 s1_6 (by omega) (by omega) (by omega) h_p0) (inMod_o h_p0) rfl (good_V ml_X9_175 im_X9_must se_X9_must ini_X9 co_X9_must) (by decide +kernel) ⟨Nat.zero_le _, Nat.zero_le _⟩ hl.1 (Nat.le_of_ble_eq_true rfl) rfl rfl dX9_readField_42 (fun r Ω_7 H locs hp hW hS => ?_)
    obtain ⟨rfl, h_p0, hF_7⟩ := hp
    have hE : ∀ q : Nat, (q < p0 ∨ p0 + 8 ≤ q) → Ω_7 q = Ω q := fun q g0 => (hF_7 q (by omega)).trans (hE q g0)
    have qm_7 : p0_9.toInt ≤ (f_X9_must p0_7 p0_8 p0_9 p0_10 p0_11 p0_12 p0_13 s1_6).2.1.toInt ∧ (f_X9_must p0_7 p0_8 p0_9 p0_10 p0_11 p0_12 p0_13 s1_6).2.1.toInt ≤ p0_8.toInt := (must_MR hy (by omega) (by omega)).1
    have qa_7 : 0 ≤ (f_X9_must p0_7 p0_8 p0_9 p0_10 p0_11 p0_12 p0_13 s1_6).2.2.1.toInt := (must_MR hy (by omega) (by omega)).2.1
    have qf_7 : (f_X9_must p0_7 p0_8 p0_9 p0_10 p0_11 p0_12 p0_13 s1_6).2.2.2.2.2.toInt ≠ -9 ∨ (p0_13.toInt = -9 ∧ ((f_X9_must p0_7 p0_8 p0_9 p0_10 p0_11 p0_12 p0_13 s1_6).2.2.2.1.toInt = 0 ∨ p0_9.toInt < (f_X9_must p0_7 p0_8 p0_9 p0_10 p0_11 p0_12 p0_13 s1_6).2.1.toInt)) := (must_MR hy (by omega) (by omega)).2.2
    have qs_7 : (f_X9_must p0_7 p0_8 p0_9 p0_10 p0_11 p0_12 p0_13 s1_6).2.2.2.2.2.toInt ≠ -9 ∨ s1_6.toInt ≠ 0 := must_is hy (by omega) (by omega)
    have qi_7 : (f_X9_must p0_7 p0_8 p0_9 p0_10 p0_11 p0_12 p0_13 s1_6).1.toInt = p0_12.toInt := congrArg Int32.toInt must_its
    generalize (f_X9_must p0_7 p0_8 p0_9 p0_10 p0_11 p0_12 p0_13 s1_6) = Z_7 at h_p0 hR qm_7 qa_7 qf_7 qs_7 qi_7 ⊢
    obtain ⟨z7_0, z7_1, z7_2, z7_3, z7_4, z7_5⟩ := Z_7
    dsimp only at h_p0 hR qm_7 qa_7 qf_7 qs_7 qi_7 ⊢
    rw [f_X9_readField_C45] at hR
    refine o_SiR (rest := []) (As := [.int z7_0]) (n := 1) hx hb hml hown hts hK hN hZ hW hS hA (c_X9_kindOf l G A Ω_7 z7_0) ml_X9_166 st_X9_kindOf ini_X9 co_X9_kindOf (by decide +kernel) ⟨Nat.zero_le _, Nat.zero_le _⟩ hl.1 (Nat.le_of_ble_eq_true rfl) rfl rfl dX9_readField_45 (fun r H locs hp hW hS => ?_)
    subst hp
    refine lv_istore_n (lv' := [(3, .int (f_X9_kindOf z7_0)), (0, .ref p0), (1, .int ((p0_1 (90 : Int32).toNatClampNeg) - (1 : Int32))), (2, .int (f_X9_usedBits p0_1 ((p0_1 (90 : Int32).toNatClampNeg) - (1 : Int32))))]) hx hb dX9_readField_48 rfl hl (by decide) rfl (fun ls hl => ?_)
    refine lv_aload_n hx hb dX9_readField_49 rfl (lv_at hl 1 rfl) ?_
    refine lv_aload_n hx hb dX9_readField_50 rfl (lv_at hl 1 rfl) ?_
    refine o_get hx hb hts hown hK hW (inMod_o h_p0) rfl ig9 11 (by decide) fl_X9_162 rfl dX9_readField_51 ?_
    refine lv_iconst (v := (1 : Int32)) hx hb dX9_readField_54 (by decide) ?_
    have J87 : ∀ (s1_9 : Int32) (H : Heap) (locs : List Loc), oW G A Ω_7 H → va_S A s.heap H locs → ∀ ls : Array Slot, lv_has ls 8 [(0, .ref p0), (1, .int ((p0_1 (90 : Int32).toNatClampNeg) - (1 : Int32))), (2, .int (f_X9_usedBits p0_1 ((p0_1 (90 : Int32).toNatClampNeg) - (1 : Int32)))), (3, .int (f_X9_kindOf z7_0))] → (f_X9_readField_J87 p0_1 p0_7 p0_8 z7_1 z7_2 z7_3 z7_4 z7_5 ((p0_1 (90 : Int32).toNatClampNeg) - (1 : Int32)) (f_X9_usedBits p0_1 ((p0_1 (90 : Int32).toNatClampNeg) - (1 : Int32))) (f_X9_kindOf z7_0) s1_9) = R → W p l e (headSpec (wz yX9_readField cX9_readField 8 none) ({ frames := 5, cells := 0, slots := 0, locals := 109 } : Room)).room s m ([.ref p0] : List Value).toArray below meth c H locs 0 0 (MQ below (va_Qv (fun (Ω1 : Om) => inMod G Ω1 p0 p0_0 (R.1) p0_2 p0_3 p0_4 p0_5 p0_6 p0_7 p0_8 (R.2.1) (R.2.2.1) (R.2.2.2.1) (R.2.2.2.2.1) (R.2.2.2.2.2) ∧ (∀ q : Nat, (q < p0 ∨ p0 + 8 ≤ q) → Ω1 q = Ω q)) (oB G A) A) ([.ref p0] : List Value).toArray s 0 0 A) (F0 m 87 ls [.int s1_9, .ref p0]) := by
      intro s1_9 H locs hW hS ls hl hR
      rw [f_X9_readField_J87] at hR
      refine o_Vi (rest := []) (As := [.int s1_9]) (n := 1) hx hb hml hown hts hK hN hZ hW hS hA (c_X9_must l G A Ω_7 p0 p0_0 p0_1 p0_2 p0_3 p0_4 p0_5 p0_6 p0_7 p0_8 z7_1 z7_2 z7_3 z7_4 z7_5 s1_9 (by omega) (by omega) (by omega) h_p0) (inMod_o h_p0) rfl (good_V ml_X9_175 im_X9_must se_X9_must ini_X9 co_X9_must) (by decide +kernel) ⟨Nat.zero_le _, Nat.zero_le _⟩ hl.1 (Nat.le_of_ble_eq_true rfl) rfl rfl dX9_readField_87 (fun r Ω_10 H locs hp hW hS => ?_)
      obtain ⟨rfl, h_p0, hF_10⟩ := hp
      have hE : ∀ q : Nat, (q < p0 ∨ p0 + 8 ≤ q) → Ω_10 q = Ω q := fun q g0 => (hF_10 q (by omega)).trans (hE q g0)
      have qm_10 : z7_1.toInt ≤ (f_X9_must p0_7 p0_8 z7_1 z7_2 z7_3 z7_4 z7_5 s1_9).2.1.toInt ∧ (f_X9_must p0_7 p0_8 z7_1 z7_2 z7_3 z7_4 z7_5 s1_9).2.1.toInt ≤ p0_8.toInt := (must_MR hy (by omega) (by omega)).1
      have qa_10 : 0 ≤ (f_X9_must p0_7 p0_8 z7_1 z7_2 z7_3 z7_4 z7_5 s1_9).2.2.1.toInt := (must_MR hy (by omega) (by omega)).2.1
      have qf_10 : (f_X9_must p0_7 p0_8 z7_1 z7_2 z7_3 z7_4 z7_5 s1_9).2.2.2.2.2.toInt ≠ -9 ∨ (z7_5.toInt = -9 ∧ ((f_X9_must p0_7 p0_8 z7_1 z7_2 z7_3 z7_4 z7_5 s1_9).2.2.2.1.toInt = 0 ∨ z7_1.toInt < (f_X9_must p0_7 p0_8 z7_1 z7_2 z7_3 z7_4 z7_5 s1_9).2.1.toInt)) := (must_MR hy (by omega) (by omega)).2.2
      have qs_10 : (f_X9_must p0_7 p0_8 z7_1 z7_2 z7_3 z7_4 z7_5 s1_9).2.2.2.2.2.toInt ≠ -9 ∨ s1_9.toInt ≠ 0 := must_is hy (by omega) (by omega)
      have qi_10 : (f_X9_must p0_7 p0_8 z7_1 z7_2 z7_3 z7_4 z7_5 s1_9).1.toInt = z7_4.toInt := congrArg Int32.toInt must_its
      generalize (f_X9_must p0_7 p0_8 z7_1 z7_2 z7_3 z7_4 z7_5 s1_9) = Z_10 at h_p0 hR qm_10 qa_10 qf_10 qs_10 qi_10 ⊢
      obtain ⟨z10_0, z10_1, z10_2, z10_3, z10_4, z10_5⟩ := Z_10
      dsimp only at h_p0 hR qm_10 qa_10 qf_10 qs_10 qi_10 ⊢
      rw [f_X9_readField_C90] at hR
      refine lv_istore (lv' := [(4, .int z10_0), (0, .ref p0), (1, .int ((p0_1 (90 : Int32).toNatClampNeg) - (1 : Int32))), (2, .int (f_X9_usedBits p0_1 ((p0_1 (90 : Int32).toNatClampNeg) - (1 : Int32)))), (3, .int (f_X9_kindOf z7_0))]) hx hb dX9_readField_90 hl (by decide) rfl (fun ls hl => ?_)
      refine lv_aload_n hx hb dX9_readField_92 rfl (lv_at hl 1 rfl) ?_
      refine lv_aload_n hx hb dX9_readField_93 rfl (lv_at hl 1 rfl) ?_
      refine o_get hx hb hts hown hK hW (inMod_o h_p0) rfl ig9 11 (by decide) fl_X9_162 rfl dX9_readField_94 ?_
      refine lv_iconst (v := (1 : Int32)) hx hb dX9_readField_97 (by decide) ?_
      have J136 : ∀ (s1_11 : Int32) (H : Heap) (locs : List Loc), oW G A Ω_10 H → va_S A s.heap H locs → ∀ ls : Array Slot, lv_has ls 8 [(0, .ref p0), (1, .int ((p0_1 (90 : Int32).toNatClampNeg) - (1 : Int32))), (3, .int (f_X9_kindOf z7_0)), (4, .int z10_0)] → (f_X9_readField_J136 p0_1 p0_7 p0_8 z10_1 z10_2 z10_3 z10_4 z10_5 ((p0_1 (90 : Int32).toNatClampNeg) - (1 : Int32)) (f_X9_kindOf z7_0) z10_0 s1_11) = R → W p l e (headSpec (wz yX9_readField cX9_readField 8 none) ({ frames := 5, cells := 0, slots := 0, locals := 109 } : Room)).room s m ([.ref p0] : List Value).toArray below meth c H locs 0 0 (MQ below (va_Qv (fun (Ω1 : Om) => inMod G Ω1 p0 p0_0 (R.1) p0_2 p0_3 p0_4 p0_5 p0_6 p0_7 p0_8 (R.2.1) (R.2.2.1) (R.2.2.2.1) (R.2.2.2.2.1) (R.2.2.2.2.2) ∧ (∀ q : Nat, (q < p0 ∨ p0 + 8 ≤ q) → Ω1 q = Ω q)) (oB G A) A) ([.ref p0] : List Value).toArray s 0 0 A) (F0 m 136 ls [.int s1_11, .ref p0]) := by
        intro s1_11 H locs hW hS ls hl hR
        rw [f_X9_readField_J136] at hR
        refine o_Vi (rest := []) (As := [.int s1_11]) (n := 1) hx hb hml hown hts hK hN hZ hW hS hA (c_X9_must l G A Ω_10 p0 p0_0 p0_1 p0_2 p0_3 p0_4 p0_5 p0_6 p0_7 p0_8 z10_1 z10_2 z10_3 z10_4 z10_5 s1_11 (by omega) (by omega) (by omega) h_p0) (inMod_o h_p0) rfl (good_V ml_X9_175 im_X9_must se_X9_must ini_X9 co_X9_must) (by decide +kernel) ⟨Nat.zero_le _, Nat.zero_le _⟩ hl.1 (Nat.le_of_ble_eq_true rfl) rfl rfl dX9_readField_136 (fun r Ω_12 H locs hp hW hS => ?_)
        obtain ⟨rfl, h_p0, hF_12⟩ := hp
        have hE : ∀ q : Nat, (q < p0 ∨ p0 + 8 ≤ q) → Ω_12 q = Ω q := fun q g0 => (hF_12 q (by omega)).trans (hE q g0)
        have qm_12 : z10_1.toInt ≤ (f_X9_must p0_7 p0_8 z10_1 z10_2 z10_3 z10_4 z10_5 s1_11).2.1.toInt ∧ (f_X9_must p0_7 p0_8 z10_1 z10_2 z10_3 z10_4 z10_5 s1_11).2.1.toInt ≤ p0_8.toInt := (must_MR hy (by omega) (by omega)).1
        have qa_12 : 0 ≤ (f_X9_must p0_7 p0_8 z10_1 z10_2 z10_3 z10_4 z10_5 s1_11).2.2.1.toInt := (must_MR hy (by omega) (by omega)).2.1
        have qf_12 : (f_X9_must p0_7 p0_8 z10_1 z10_2 z10_3 z10_4 z10_5 s1_11).2.2.2.2.2.toInt ≠ -9 ∨ (z10_5.toInt = -9 ∧ ((f_X9_must p0_7 p0_8 z10_1 z10_2 z10_3 z10_4 z10_5 s1_11).2.2.2.1.toInt = 0 ∨ z10_1.toInt < (f_X9_must p0_7 p0_8 z10_1 z10_2 z10_3 z10_4 z10_5 s1_11).2.1.toInt)) := (must_MR hy (by omega) (by omega)).2.2
        have qs_12 : (f_X9_must p0_7 p0_8 z10_1 z10_2 z10_3 z10_4 z10_5 s1_11).2.2.2.2.2.toInt ≠ -9 ∨ s1_11.toInt ≠ 0 := must_is hy (by omega) (by omega)
        have qi_12 : (f_X9_must p0_7 p0_8 z10_1 z10_2 z10_3 z10_4 z10_5 s1_11).1.toInt = z10_4.toInt := congrArg Int32.toInt must_its
        generalize (f_X9_must p0_7 p0_8 z10_1 z10_2 z10_3 z10_4 z10_5 s1_11) = Z_12 at h_p0 hR qm_12 qa_12 qf_12 qs_12 qi_12 ⊢
        obtain ⟨z12_0, z12_1, z12_2, z12_3, z12_4, z12_5⟩ := Z_12
        dsimp only at h_p0 hR qm_12 qa_12 qf_12 qs_12 qi_12 ⊢
        rw [f_X9_readField_C139] at hR
        refine lv_istore (lv' := [(5, .int z12_0), (0, .ref p0), (1, .int ((p0_1 (90 : Int32).toNatClampNeg) - (1 : Int32))), (3, .int (f_X9_kindOf z7_0)), (4, .int z10_0)]) hx hb dX9_readField_139 hl (by decide) rfl (fun ls hl => ?_)
        refine lv_aload_n hx hb dX9_readField_141 rfl (lv_at hl 1 rfl) ?_
        refine o_get hx hb hts hown hK hW (inMod_o h_p0) rfl ig9 13 (by decide) fl_X9_169 rfl dX9_readField_142 ?_
        refine lv_bipush (v := (-9 : Int32)) hx hb dX9_readField_145 (by decide) ?_
        have J170 : ∀ (s0_13 : Int32) (p0_9_13 : Int32) (p0_10_13 : Int32) (p0_11_13 : Int32) (p0_12_13 : Int32) (p0_13_13 : Int32) (Ω_14 : Om) (H : Heap) (locs : List Loc), inMod G Ω_14 p0 p0_0 p0_1 p0_2 p0_3 p0_4 p0_5 p0_6 p0_7 p0_8 p0_9_13 p0_10_13 p0_11_13 p0_12_13 p0_13_13 → (∀ q : Nat, (q < p0 ∨ p0 + 8 ≤ q) → Ω_14 q = Ω q) → oW G A Ω_14 H → va_S A s.heap H locs → ∀ ls : Array Slot, lv_has ls 8 [(0, .ref p0), (1, .int ((p0_1 (90 : Int32).toNatClampNeg) - (1 : Int32))), (3, .int (f_X9_kindOf z7_0)), (4, .int z10_0), (5, .int z12_0)] → (f_X9_readField_J170 p0_1 ((p0_1 (90 : Int32).toNatClampNeg) - (1 : Int32)) (f_X9_kindOf z7_0) z10_0 z12_0 s0_13 p0_9_13 p0_10_13 p0_11_13 p0_12_13 p0_13_13) = R → W p l e (headSpec (wz yX9_readField cX9_readField 8 none) ({ frames := 5, cells := 0, slots := 0, locals := 109 } : Room)).room s m ([.ref p0] : List Value).toArray below meth c H locs 0 0 (MQ below (va_Qv (fun (Ω1 : Om) => inMod G Ω1 p0 p0_0 (R.1) p0_2 p0_3 p0_4 p0_5 p0_6 p0_7 p0_8 (R.2.1) (R.2.2.1) (R.2.2.2.1) (R.2.2.2.2.1) (R.2.2.2.2.2) ∧ (∀ q : Nat, (q < p0 ∨ p0 + 8 ≤ q) → Ω1 q = Ω q)) (oB G A) A) ([.ref p0] : List Value).toArray s 0 0 A) (F0 m 170 ls [.int s0_13]) := by
          intro s0_13 p0_9_13 p0_10_13 p0_11_13 p0_12_13 p0_13_13 Ω_14 H locs h_p0 hE hW hS ls hl hR
          rw [f_X9_readField_J170] at hR
          refine lv_istore (lv' := [(6, .int s0_13), (0, .ref p0), (1, .int ((p0_1 (90 : Int32).toNatClampNeg) - (1 : Int32))), (3, .int (f_X9_kindOf z7_0)), (4, .int z10_0), (5, .int z12_0)]) hx hb dX9_readField_170 hl (by decide) rfl (fun ls hl => ?_)
          refine lv_aload_n hx hb dX9_readField_172 rfl (lv_at hl 1 rfl) ?_
          refine o_get hx hb hts hown hK hW (inMod_o h_p0) rfl ig9 13 (by decide) fl_X9_169 rfl dX9_readField_173 ?_
          refine lv_bipush (v := (-9 : Int32)) hx hb dX9_readField_176 (by decide) ?_
          have j_16 : (-9 : Int32).toInt = -9 := by decide
          refine lv_icmp_ne (tgt := 259) hx hb dX9_readField_178 (by decide) (fun c_15 => ?_) (fun c_15 => ?_)
          · rw [if_neg c_15] at hR
            have i_15 := rne c_15
            subst hR
            exact W.vret hx hb hr (fun t ht hW9 => ⟨⟨Ω_14, rfl, ⟨h_p0, hE⟩, by rw [oB, ht]; exact hW⟩, hS.F ht⟩) hS.2.2 dX9_readField_259
          · rw [if_pos c_15] at hR
            have i_15 := congrArg Int32.toInt c_15
            refine lv_aload_n hx hb dX9_readField_181 rfl (lv_at hl 1 rfl) ?_
            refine o_get hx hb hts hown hK hW (inMod_o h_p0) rfl ig9 1 (by decide) fl_X9_13 rfl dX9_readField_182 ?_
            refine lv_bipush (v := (91 : Int32)) hx hb dX9_readField_185 (by decide) ?_
            have j_17 : (91 : Int32).toInt = 91 := by decide
            refine o_iald hx hb hK hW (inMod_a1 h_p0) (vp_in_iff.mpr ⟨by omega, by omega⟩) dX9_readField_187 ?_
            refine lv_istore (lv' := [(7, .int (p0_1 (91 : Int32).toNatClampNeg)), (6, .int s0_13), (0, .ref p0), (1, .int ((p0_1 (90 : Int32).toNatClampNeg) - (1 : Int32))), (3, .int (f_X9_kindOf z7_0)), (4, .int z10_0), (5, .int z12_0)]) hx hb dX9_readField_188 hl (by decide) rfl (fun ls hl => ?_)
            refine lv_aload_n hx hb dX9_readField_190 rfl (lv_at hl 2 rfl) ?_
            refine o_get hx hb hts hown hK hW (inMod_o h_p0) rfl ig9 1 (by decide) fl_X9_13 rfl dX9_readField_191 ?_
            refine lv_bipush (v := (18 : Int32)) hx hb dX9_readField_194 (by decide) ?_
            refine lv_iload hx hb dX9_readField_196 (lv_at hl 0 rfl) ?_
            refine lv_iadd hx hb dX9_readField_198 ?_
            refine lv_iload_n hx hb dX9_readField_199 rfl (lv_at hl 3 rfl) ?_
            have j_18 : (18 : Int32).toInt = 18 := by decide
            try have j_19 : 0 ≤ (p0_1 (91 : Int32).toNatClampNeg).toInt ∧ (p0_1 (91 : Int32).toNatClampNeg).toInt ≤ 12 := DI_91 hD
            try have j_20 : ((18 : Int32) + (p0_1 (91 : Int32).toNatClampNeg)).toInt = (18 : Int32).toInt + (p0_1 (91 : Int32).toNatClampNeg).toInt := fb_addI (by omega) (by omega)
            refine wMod_1 hx hb hK hW hS hA h_p0 (vp_in_iff.mpr ⟨by omega, by omega⟩) dX9_readField_200 (fun Ω_21 H locs h_p0 hF_21 hW hS => ?_)
            have hE : ∀ q : Nat, (q < p0 ∨ p0 + 8 ≤ q) → Ω_21 q = Ω q := fun q g0 => (hF_21 q (by omega)).trans (hE q g0)
            refine lv_aload_n hx hb dX9_readField_201 rfl (lv_at hl 2 rfl) ?_
            refine o_get hx hb hts hown hK hW (inMod_o h_p0) rfl ig9 1 (by decide) fl_X9_13 rfl dX9_readField_202 ?_
            refine lv_bipush (v := (30 : Int32)) hx hb dX9_readField_205 (by decide) ?_
            refine lv_iload hx hb dX9_readField_207 (lv_at hl 0 rfl) ?_
            refine lv_iadd hx hb dX9_readField_209 ?_
            refine lv_iload hx hb dX9_readField_210 (lv_at hl 5 rfl) ?_
            have j_22 : (30 : Int32).toInt = 30 := by decide
            try have j_23 : ((30 : Int32) + (p0_1 (91 : Int32).toNatClampNeg)).toInt = (30 : Int32).toInt + (p0_1 (91 : Int32).toNatClampNeg).toInt := fb_addI (by omega) (by omega)
            refine wMod_1 hx hb hK hW hS hA h_p0 (vp_in_iff.mpr ⟨by omega, by omega⟩) dX9_readField_212 (fun Ω_24 H locs h_p0 hF_24 hW hS => ?_)
            have hE : ∀ q : Nat, (q < p0 ∨ p0 + 8 ≤ q) → Ω_24 q = Ω q := fun q g0 => (hF_24 q (by omega)).trans (hE q g0)
            refine lv_aload_n hx hb dX9_readField_213 rfl (lv_at hl 2 rfl) ?_
            refine o_get hx hb hts hown hK hW (inMod_o h_p0) rfl ig9 1 (by decide) fl_X9_13 rfl dX9_readField_214 ?_
            refine lv_bipush (v := (42 : Int32)) hx hb dX9_readField_217 (by decide) ?_
            refine lv_iload hx hb dX9_readField_219 (lv_at hl 0 rfl) ?_
            refine lv_iadd hx hb dX9_readField_221 ?_
            refine lv_iload hx hb dX9_readField_222 (lv_at hl 6 rfl) ?_
            have j_25 : (42 : Int32).toInt = 42 := by decide
            try have j_26 : ((42 : Int32) + (p0_1 (91 : Int32).toNatClampNeg)).toInt = (42 : Int32).toInt + (p0_1 (91 : Int32).toNatClampNeg).toInt := fb_addI (by omega) (by omega)
            refine wMod_1 hx hb hK hW hS hA h_p0 (vp_in_iff.mpr ⟨by omega, by omega⟩) dX9_readField_224 (fun Ω_27 H locs h_p0 hF_27 hW hS => ?_)
            have hE : ∀ q : Nat, (q < p0 ∨ p0 + 8 ≤ q) → Ω_27 q = Ω q := fun q g0 => (hF_27 q (by omega)).trans (hE q g0)
            refine lv_aload_n hx hb dX9_readField_225 rfl (lv_at hl 2 rfl) ?_
            refine o_get hx hb hts hown hK hW (inMod_o h_p0) rfl ig9 1 (by decide) fl_X9_13 rfl dX9_readField_226 ?_
            refine lv_bipush (v := (54 : Int32)) hx hb dX9_readField_229 (by decide) ?_
            refine lv_iload hx hb dX9_readField_231 (lv_at hl 0 rfl) ?_
            refine lv_iadd hx hb dX9_readField_233 ?_
            refine lv_iload_n hx hb dX9_readField_234 rfl (lv_at hl 4 rfl) ?_
            have j_28 : (54 : Int32).toInt = 54 := by decide
            try have j_29 : ((54 : Int32) + (p0_1 (91 : Int32).toNatClampNeg)).toInt = (54 : Int32).toInt + (p0_1 (91 : Int32).toNatClampNeg).toInt := fb_addI (by omega) (by omega)
            refine wMod_1 hx hb hK hW hS hA h_p0 (vp_in_iff.mpr ⟨by omega, by omega⟩) dX9_readField_235 (fun Ω_30 H locs h_p0 hF_30 hW hS => ?_)
            have hE : ∀ q : Nat, (q < p0 ∨ p0 + 8 ≤ q) → Ω_30 q = Ω q := fun q g0 => (hF_30 q (by omega)).trans (hE q g0)
            refine lv_aload_n hx hb dX9_readField_236 rfl (lv_at hl 2 rfl) ?_
            refine o_get hx hb hts hown hK hW (inMod_o h_p0) rfl ig9 1 (by decide) fl_X9_13 rfl dX9_readField_237 ?_
            refine lv_bipush (v := (66 : Int32)) hx hb dX9_readField_240 (by decide) ?_
            refine lv_iload hx hb dX9_readField_242 (lv_at hl 0 rfl) ?_
            refine lv_iadd hx hb dX9_readField_244 ?_
            refine lv_iload hx hb dX9_readField_245 (lv_at hl 1 rfl) ?_
            have j_31 : (66 : Int32).toInt = 66 := by decide
            try have j_32 : ((66 : Int32) + (p0_1 (91 : Int32).toNatClampNeg)).toInt = (66 : Int32).toInt + (p0_1 (91 : Int32).toNatClampNeg).toInt := fb_addI (by omega) (by omega)
            refine wMod_1 hx hb hK hW hS hA h_p0 (vp_in_iff.mpr ⟨by omega, by omega⟩) dX9_readField_247 (fun Ω_33 H locs h_p0 hF_33 hW hS => ?_)
            have hE : ∀ q : Nat, (q < p0 ∨ p0 + 8 ≤ q) → Ω_33 q = Ω q := fun q g0 => (hF_33 q (by omega)).trans (hE q g0)
            refine lv_aload_n hx hb dX9_readField_248 rfl (lv_at hl 2 rfl) ?_
            refine o_get hx hb hts hown hK hW (inMod_o h_p0) rfl ig9 1 (by decide) fl_X9_13 rfl dX9_readField_249 ?_
            refine lv_bipush (v := (91 : Int32)) hx hb dX9_readField_252 (by decide) ?_
            refine lv_dup2_11 hx hb dX9_readField_254 rfl rfl ?_
            refine o_iald hx hb hK hW (inMod_a1 h_p0) (vp_in_iff.mpr ⟨by omega, by omega⟩) dX9_readField_255 ?_
            refine lv_iconst (v := (1 : Int32)) hx hb dX9_readField_256 (by decide) ?_
            refine lv_iadd hx hb dX9_readField_257 ?_
            refine wMod_1 hx hb hK hW hS hA h_p0 (vp_in_iff.mpr ⟨by omega, by omega⟩) dX9_readField_258 (fun Ω_34 H locs h_p0 hF_34 hW hS => ?_)
            have hE : ∀ q : Nat, (q < p0 ∨ p0 + 8 ≤ q) → Ω_34 q = Ω q := fun q g0 => (hF_34 q (by omega)).trans (hE q g0)
            subst hR
            exact W.vret hx hb hr (fun t ht hW9 => ⟨⟨Ω_34, rfl, ⟨h_p0, hE⟩, by rw [oB, ht]; exact hW⟩, hS.F ht⟩) hS.2.2 dX9_readField_259
        have j_36 : (-9 : Int32).toInt = -9 := by decide
        refine lv_icmp_ne (tgt := 169) hx hb dX9_readField_147 (by decide) (fun c_35 => ?_) (fun c_35 => ?_)
        · rw [if_neg c_35] at hR
          have i_35 := rne c_35
          refine lv_iconst (v := (0 : Int32)) hx hb dX9_readField_169 (by decide) ?_
          have j_37 : (0 : Int32).toInt = 0 := by decide
          exact J170 (0 : Int32) z12_1 z12_2 z12_3 z12_4 z12_5 Ω_12 H locs h_p0 hE hW hS ls (lv_sub hl [1, 2, 3, 4, 0] rfl) hR
        · rw [if_pos c_35] at hR
          have i_35 := congrArg Int32.toInt c_35
          refine lv_aload_n hx hb dX9_readField_150 rfl (lv_at hl 1 rfl) ?_
          refine lv_iconst (v := (0 : Int32)) hx hb dX9_readField_151 (by decide) ?_
          refine lv_iconst (v := (1 : Int32)) hx hb dX9_readField_152 (by decide) ?_
          refine lv_iload hx hb dX9_readField_153 (lv_at hl 0 rfl) ?_
          refine lv_iload hx hb dX9_readField_155 (lv_at hl 4 rfl) ?_
          refine lv_isub hx hb dX9_readField_157 ?_
          refine lv_iconst (v := (1 : Int32)) hx hb dX9_readField_158 (by decide) ?_
          refine lv_iadd hx hb dX9_readField_159 ?_
          refine lv_ishl hx hb dX9_readField_160 ?_
          refine lv_iconst (v := (1 : Int32)) hx hb dX9_readField_161 (by decide) ?_
          refine lv_isub hx hb dX9_readField_162 ?_
          have j_38 : (0 : Int32).toInt = 0 := by decide
          try have j_39 : (((1 : Int32) <<< (((z12_0 - z10_0) + (1 : Int32)) &&& 31)) - (1 : Int32)).toInt = ((1 : Int32) <<< (((z12_0 - z10_0) + (1 : Int32)) &&& 31)).toInt - (1 : Int32).toInt := fb_subI (by omega) (by omega)
          refine o_Vi (rest := []) (As := [.int (0 : Int32), .int (((1 : Int32) <<< (((z12_0 - z10_0) + (1 : Int32)) &&& 31)) - (1 : Int32))]) (n := 2) hx hb hml hown hts hK hN hZ hW hS hA (c_X9_number l G A Ω_12 p0 p0_0 p0_1 p0_2 p0_3 p0_4 p0_5 p0_6 p0_7 p0_8 z12_1 z12_2 z12_3 z12_4 z12_5 (0 : Int32) (((1 : Int32) <<< (((z12_0 - z10_0) + (1 : Int32)) &&& 31)) - (1 : Int32)) (by omega) (by omega) (by omega) h_p0) (inMod_o h_p0) rfl (good_V ml_X9_179 im_X9_number se_X9_number ini_X9 co_X9_number) (by decide +kernel) ⟨Nat.zero_le _, Nat.zero_le _⟩ hl.1 (Nat.le_of_ble_eq_true rfl) rfl rfl dX9_readField_163 (fun r Ω_40 H locs hp hW hS => ?_)
          obtain ⟨rfl, h_p0, hF_40⟩ := hp
          have hE : ∀ q : Nat, (q < p0 ∨ p0 + 8 ≤ q) → Ω_40 q = Ω q := fun q g0 => (hF_40 q (by omega)).trans (hE q g0)
          have qm_40 : z12_1.toInt ≤ (f_X9_number p0_7 p0_8 z12_1 z12_2 z12_3 z12_4 z12_5 (0 : Int32) (((1 : Int32) <<< (((z12_0 - z10_0) + (1 : Int32)) &&& 31)) - (1 : Int32))).2.1.toInt ∧ (f_X9_number p0_7 p0_8 z12_1 z12_2 z12_3 z12_4 z12_5 (0 : Int32) (((1 : Int32) <<< (((z12_0 - z10_0) + (1 : Int32)) &&& 31)) - (1 : Int32))).2.1.toInt ≤ p0_8.toInt := (number_MR hy (by omega) (by omega)).1
          have qa_40 : 0 ≤ (f_X9_number p0_7 p0_8 z12_1 z12_2 z12_3 z12_4 z12_5 (0 : Int32) (((1 : Int32) <<< (((z12_0 - z10_0) + (1 : Int32)) &&& 31)) - (1 : Int32))).2.2.1.toInt := (number_MR hy (by omega) (by omega)).2.1
          have qf_40 : (f_X9_number p0_7 p0_8 z12_1 z12_2 z12_3 z12_4 z12_5 (0 : Int32) (((1 : Int32) <<< (((z12_0 - z10_0) + (1 : Int32)) &&& 31)) - (1 : Int32))).2.2.2.2.2.toInt ≠ -9 ∨ (z12_5.toInt = -9 ∧ ((f_X9_number p0_7 p0_8 z12_1 z12_2 z12_3 z12_4 z12_5 (0 : Int32) (((1 : Int32) <<< (((z12_0 - z10_0) + (1 : Int32)) &&& 31)) - (1 : Int32))).2.2.2.1.toInt = 0 ∨ z12_1.toInt < (f_X9_number p0_7 p0_8 z12_1 z12_2 z12_3 z12_4 z12_5 (0 : Int32) (((1 : Int32) <<< (((z12_0 - z10_0) + (1 : Int32)) &&& 31)) - (1 : Int32))).2.1.toInt)) := (number_MR hy (by omega) (by omega)).2.2
          have qn_40 : (f_X9_number p0_7 p0_8 z12_1 z12_2 z12_3 z12_4 z12_5 (0 : Int32) (((1 : Int32) <<< (((z12_0 - z10_0) + (1 : Int32)) &&& 31)) - (1 : Int32))).2.2.2.2.2.toInt ≠ -9 ∨ ((0 : Int32).toInt ≤ (f_X9_number p0_7 p0_8 z12_1 z12_2 z12_3 z12_4 z12_5 (0 : Int32) (((1 : Int32) <<< (((z12_0 - z10_0) + (1 : Int32)) &&& 31)) - (1 : Int32))).1.toInt ∧ (f_X9_number p0_7 p0_8 z12_1 z12_2 z12_3 z12_4 z12_5 (0 : Int32) (((1 : Int32) <<< (((z12_0 - z10_0) + (1 : Int32)) &&& 31)) - (1 : Int32))).1.toInt ≤ (((1 : Int32) <<< (((z12_0 - z10_0) + (1 : Int32)) &&& 31)) - (1 : Int32)).toInt) := number_ok hy (by omega) (by omega)
          generalize (f_X9_number p0_7 p0_8 z12_1 z12_2 z12_3 z12_4 z12_5 (0 : Int32) (((1 : Int32) <<< (((z12_0 - z10_0) + (1 : Int32)) &&& 31)) - (1 : Int32))) = Z_40 at h_p0 hR qm_40 qa_40 qf_40 qn_40 ⊢
          obtain ⟨z40_0, z40_1, z40_2, z40_3, z40_4, z40_5⟩ := Z_40
          dsimp only at h_p0 hR qm_40 qa_40 qf_40 qn_40 ⊢
          rw [f_X9_readField_C166] at hR
          refine lv_goto (tgt := 170) hx hb dX9_readField_166 (by decide) ?_
          exact J170 z40_0 z40_1 z40_2 z40_3 z40_4 z40_5 Ω_40 H locs h_p0 hE hW hS ls (lv_sub hl [1, 2, 3, 4, 0] rfl) hR
      have J135 : ∀ (H : Heap) (locs : List Loc), oW G A Ω_10 H → va_S A s.heap H locs → ∀ ls : Array Slot, lv_has ls 8 [(0, .ref p0), (1, .int ((p0_1 (90 : Int32).toNatClampNeg) - (1 : Int32))), (3, .int (f_X9_kindOf z7_0)), (4, .int z10_0)] → (f_X9_readField_J135 p0_1 p0_7 p0_8 z10_1 z10_2 z10_3 z10_4 z10_5 ((p0_1 (90 : Int32).toNatClampNeg) - (1 : Int32)) (f_X9_kindOf z7_0) z10_0) = R → W p l e (headSpec (wz yX9_readField cX9_readField 8 none) ({ frames := 5, cells := 0, slots := 0, locals := 109 } : Room)).room s m ([.ref p0] : List Value).toArray below meth c H locs 0 0 (MQ below (va_Qv (fun (Ω1 : Om) => inMod G Ω1 p0 p0_0 (R.1) p0_2 p0_3 p0_4 p0_5 p0_6 p0_7 p0_8 (R.2.1) (R.2.2.1) (R.2.2.2.1) (R.2.2.2.2.1) (R.2.2.2.2.2) ∧ (∀ q : Nat, (q < p0 ∨ p0 + 8 ≤ q) → Ω1 q = Ω q)) (oB G A) A) ([.ref p0] : List Value).toArray s 0 0 A) (F0 m 135 ls [.ref p0]) := by
        intro H locs hW hS ls hl hR
        rw [f_X9_readField_J135] at hR
        refine lv_iconst (v := (0 : Int32)) hx hb dX9_readField_135 (by decide) ?_
        have j_42 : (0 : Int32).toInt = 0 := by decide
        exact J136 (0 : Int32) H locs hW hS ls (lv_sub hl [0, 1, 2, 3] rfl) hR
      refine lv_icmp_ne (tgt := 135) hx hb dX9_readField_98 (by decide) (fun c_43 => ?_) (fun c_43 => ?_)
      · rw [if_neg c_43] at hR
        have i_43 := rne c_43
        exact J135 H locs hW hS ls (lv_sub hl [1, 2, 4, 0] rfl) hR
      · rw [if_pos c_43] at hR
        have i_43 := congrArg Int32.toInt c_43
        refine lv_aload_n hx hb dX9_readField_101 rfl (lv_at hl 1 rfl) ?_
        refine o_get hx hb hts hown hK hW (inMod_o h_p0) rfl ig9 12 (by decide) fl_X9_159 rfl dX9_readField_102 ?_
        refine lv_iload hx hb dX9_readField_105 (lv_at hl 0 rfl) ?_
        refine lv_bipush (v := (7 : Int32)) hx hb dX9_readField_107 (by decide) ?_
        have j_44 : (7 : Int32).toInt = 7 := by decide
        refine o_SiR (rest := [.ref p0]) (As := [.int z10_4, .int z10_0, .int (7 : Int32)]) (n := 3) hx hb hml hown hts hK hN hZ hW hS hA (c_X9_in l G A Ω_10 z10_4 z10_0 (7 : Int32)) ml_X9_39 st_X9_in ini_X9 co_X9_in (by decide +kernel) ⟨Nat.zero_le _, Nat.zero_le _⟩ hl.1 (Nat.le_of_ble_eq_true rfl) rfl rfl dX9_readField_109 (fun r H locs hp hW hS => ?_)
        obtain ⟨rfl, hz_45⟩ := hp
        have j_47 : (0 : Int32).toInt = 0 := by decide
        refine lv_if_eq (tgt := 135) hx hb dX9_readField_112 (by decide) (fun c_46 => ?_) (fun c_46 => ?_)
        · rw [if_pos c_46] at hR
          have i_46 := congrArg Int32.toInt c_46
          exact J135 H locs hW hS ls (lv_sub hl [1, 2, 4, 0] rfl) hR
        · rw [if_neg c_46] at hR
          have i_46 := rne c_46
          have b_c_46 := rIN c_46
          refine lv_iload_n hx hb dX9_readField_115 rfl (lv_at hl 3 rfl) ?_
          refine lv_iconst (v := (2 : Int32)) hx hb dX9_readField_116 (by decide) ?_
          refine lv_aload_n hx hb dX9_readField_117 rfl (lv_at hl 1 rfl) ?_
          refine o_get hx hb hts hown hK hW (inMod_o h_p0) rfl ig9 12 (by decide) fl_X9_159 rfl dX9_readField_118 ?_
          refine lv_ishl hx hb dX9_readField_121 ?_
          refine lv_iconst (v := (1 : Int32)) hx hb dX9_readField_122 (by decide) ?_
          refine lv_iload hx hb dX9_readField_123 (lv_at hl 0 rfl) ?_
          refine lv_ishl hx hb dX9_readField_125 ?_
          refine lv_isub hx hb dX9_readField_126 ?_
          refine lv_iand hx hb dX9_readField_127 ?_
          refine lv_if_ne (tgt := 135) hx hb dX9_readField_128 (by decide) (fun c_48 => ?_) (fun c_48 => ?_)
          · rw [if_neg c_48] at hR
            have i_48 := rne c_48
            exact J135 H locs hW hS ls (lv_sub hl [1, 2, 4, 0] rfl) hR
          · rw [if_pos c_48] at hR
            have i_48 := congrArg Int32.toInt c_48
            refine lv_iconst (v := (1 : Int32)) hx hb dX9_readField_131 (by decide) ?_
            refine lv_goto (tgt := 136) hx hb dX9_readField_132 (by decide) ?_
            exact J136 (1 : Int32) H locs hW hS ls (lv_sub hl [1, 2, 4, 0] rfl) hR
    have J86 : ∀ (H : Heap) (locs : List Loc), oW G A Ω_7 H → va_S A s.heap H locs → ∀ ls : Array Slot, lv_has ls 8 [(0, .ref p0), (1, .int ((p0_1 (90 : Int32).toNatClampNeg) - (1 : Int32))), (2, .int (f_X9_usedBits p0_1 ((p0_1 (90 : Int32).toNatClampNeg) - (1 : Int32)))), (3, .int (f_X9_kindOf z7_0))] → (f_X9_readField_J86 p0_1 p0_7 p0_8 z7_1 z7_2 z7_3 z7_4 z7_5 ((p0_1 (90 : Int32).toNatClampNeg) - (1 : Int32)) (f_X9_usedBits p0_1 ((p0_1 (90 : Int32).toNatClampNeg) - (1 : Int32))) (f_X9_kindOf z7_0)) = R → W p l e (headSpec (wz yX9_readField cX9_readField 8 none) ({ frames := 5, cells := 0, slots := 0, locals := 109 } : Room)).room s m ([.ref p0] : List Value).toArray below meth c H locs 0 0 (MQ below (va_Qv (fun (Ω1 : Om) => inMod G Ω1 p0 p0_0 (R.1) p0_2 p0_3 p0_4 p0_5 p0_6 p0_7 p0_8 (R.2.1) (R.2.2.1) (R.2.2.2.1) (R.2.2.2.2.1) (R.2.2.2.2.2) ∧ (∀ q : Nat, (q < p0 ∨ p0 + 8 ≤ q) → Ω1 q = Ω q)) (oB G A) A) ([.ref p0] : List Value).toArray s 0 0 A) (F0 m 86 ls [.ref p0]) := by
      intro H locs hW hS ls hl hR
      rw [f_X9_readField_J86] at hR
      refine lv_iconst (v := (0 : Int32)) hx hb dX9_readField_86 (by decide) ?_
      have j_50 : (0 : Int32).toInt = 0 := by decide
      exact J87 (0 : Int32) H locs hW hS ls (lv_sub hl [0, 1, 2, 3] rfl) hR
    refine lv_icmp_ne (tgt := 86) hx hb dX9_readField_55 (by decide) (fun c_51 => ?_) (fun c_51 => ?_)
    · rw [if_neg c_51] at hR
      have i_51 := rne c_51
      exact J86 H locs hW hS ls (lv_sub hl [1, 2, 3, 0] rfl) hR
    · rw [if_pos c_51] at hR
      have i_51 := congrArg Int32.toInt c_51
      refine lv_aload_n hx hb dX9_readField_58 rfl (lv_at hl 1 rfl) ?_
      refine o_get hx hb hts hown hK hW (inMod_o h_p0) rfl ig9 12 (by decide) fl_X9_159 rfl dX9_readField_59 ?_
      refine lv_iconst (v := (0 : Int32)) hx hb dX9_readField_62 (by decide) ?_
      refine lv_bipush (v := (7 : Int32)) hx hb dX9_readField_63 (by decide) ?_
      have j_52 : (0 : Int32).toInt = 0 := by decide
      have j_53 : (7 : Int32).toInt = 7 := by decide
      refine o_SiR (rest := [.ref p0]) (As := [.int z7_4, .int (0 : Int32), .int (7 : Int32)]) (n := 3) hx hb hml hown hts hK hN hZ hW hS hA (c_X9_in l G A Ω_7 z7_4 (0 : Int32) (7 : Int32)) ml_X9_39 st_X9_in ini_X9 co_X9_in (by decide +kernel) ⟨Nat.zero_le _, Nat.zero_le _⟩ hl.1 (Nat.le_of_ble_eq_true rfl) rfl rfl dX9_readField_65 (fun r H locs hp hW hS => ?_)
      obtain ⟨rfl, hz_54⟩ := hp
      refine lv_if_eq (tgt := 86) hx hb dX9_readField_68 (by decide) (fun c_55 => ?_) (fun c_55 => ?_)
      · rw [if_pos c_55] at hR
        have i_55 := congrArg Int32.toInt c_55
        exact J86 H locs hW hS ls (lv_sub hl [1, 2, 3, 0] rfl) hR
      · rw [if_neg c_55] at hR
        have i_55 := rne c_55
        have b_c_55 := rIN c_55
        refine lv_iload_n hx hb dX9_readField_71 rfl (lv_at hl 3 rfl) ?_
        refine lv_aload_n hx hb dX9_readField_72 rfl (lv_at hl 1 rfl) ?_
        refine o_get hx hb hts hown hK hW (inMod_o h_p0) rfl ig9 12 (by decide) fl_X9_159 rfl dX9_readField_73 ?_
        refine lv_ishr hx hb dX9_readField_76 ?_
        refine lv_iconst (v := (1 : Int32)) hx hb dX9_readField_77 (by decide) ?_
        refine lv_iand hx hb dX9_readField_78 ?_
        refine lv_if_ne (tgt := 86) hx hb dX9_readField_79 (by decide) (fun c_56 => ?_) (fun c_56 => ?_)
        · rw [if_neg c_56] at hR
          have i_56 := rne c_56
          exact J86 H locs hW hS ls (lv_sub hl [1, 2, 3, 0] rfl) hR
        · rw [if_pos c_56] at hR
          have i_56 := congrArg Int32.toInt c_56
          refine lv_iconst (v := (1 : Int32)) hx hb dX9_readField_82 (by decide) ?_
          refine lv_goto (tgt := 87) hx hb dX9_readField_83 (by decide) ?_
          exact J87 (1 : Int32) H locs hW hS ls (lv_sub hl [1, 2, 3, 0] rfl) hR
  have J41 : ∀ (H : Heap) (locs : List Loc), oW G A Ω H → va_S A s.heap H locs → ∀ ls : Array Slot, lv_has ls 8 [(0, .ref p0), (1, .int ((p0_1 (90 : Int32).toNatClampNeg) - (1 : Int32))), (2, .int (f_X9_usedBits p0_1 ((p0_1 (90 : Int32).toNatClampNeg) - (1 : Int32))))] → (f_X9_readField_J41 p0_1 p0_7 p0_8 p0_9 p0_10 p0_11 p0_12 p0_13 ((p0_1 (90 : Int32).toNatClampNeg) - (1 : Int32)) (f_X9_usedBits p0_1 ((p0_1 (90 : Int32).toNatClampNeg) - (1 : Int32)))) = R → W p l e (headSpec (wz yX9_readField cX9_readField 8 none) ({ frames := 5, cells := 0, slots := 0, locals := 109 } : Room)).room s m ([.ref p0] : List Value).toArray below meth c H locs 0 0 (MQ below (va_Qv (fun (Ω1 : Om) => inMod G Ω1 p0 p0_0 (R.1) p0_2 p0_3 p0_4 p0_5 p0_6 p0_7 p0_8 (R.2.1) (R.2.2.1) (R.2.2.2.1) (R.2.2.2.2.1) (R.2.2.2.2.2) ∧ (∀ q : Nat, (q < p0 ∨ p0 + 8 ≤ q) → Ω1 q = Ω q)) (oB G A) A) ([.ref p0] : List Value).toArray s 0 0 A) (F0 m 41 ls [.ref p0]) := by
    intro H locs hW hS ls hl hR
    rw [f_X9_readField_J41] at hR
    refine lv_iconst (v := (0 : Int32)) hx hb dX9_readField_41 (by decide) ?_
    have j_58 : (0 : Int32).toInt = 0 := by decide
    exact J42 (0 : Int32) H locs hW hS ls (lv_sub hl [0, 1, 2] rfl) hR
  have j_60 : (4 : Int32).toInt = 4 := by decide
  refine lv_icmp_ne (tgt := 41) hx hb dX9_readField_22 (by decide) (fun c_59 => ?_) (fun c_59 => ?_)
  · rw [if_neg c_59] at hR
    have i_59 := rne c_59
    exact J41 H locs hW hS ls (lv_sub hl [2, 1, 0] rfl) hR
  · rw [if_pos c_59] at hR
    have i_59 := congrArg Int32.toInt c_59
    refine lv_aload_n hx hb dX9_readField_25 rfl (lv_at hl 2 rfl) ?_
    refine o_get hx hb hts hown hK hW (inMod_o h_p0) rfl ig9 12 (by decide) fl_X9_159 rfl dX9_readField_26 ?_
    refine o_SiR (rest := [.ref p0]) (As := [.int p0_12]) (n := 1) hx hb hml hown hts hK hN hZ hW hS hA (c_X9_kindOf l G A Ω p0_12) ml_X9_166 st_X9_kindOf ini_X9 co_X9_kindOf (by decide +kernel) ⟨Nat.zero_le _, Nat.zero_le _⟩ hl.1 (Nat.le_of_ble_eq_true rfl) rfl rfl dX9_readField_29 (fun r H locs hp hW hS => ?_)
    subst hp
    refine lv_bipush (v := (-9 : Int32)) hx hb dX9_readField_32 (by decide) ?_
    have j_63 : (-9 : Int32).toInt = -9 := by decide
    refine lv_icmp_eq (tgt := 41) hx hb dX9_readField_34 (by decide) (fun c_62 => ?_) (fun c_62 => ?_)
    · rw [if_pos c_62] at hR
      have i_62 := congrArg Int32.toInt c_62
      exact J41 H locs hW hS ls (lv_sub hl [2, 1, 0] rfl) hR
    · rw [if_neg c_62] at hR
      have i_62 := rne c_62
      refine lv_iconst (v := (1 : Int32)) hx hb dX9_readField_37 (by decide) ?_
      refine lv_goto (tgt := 42) hx hb dX9_readField_38 (by decide) ?_
      exact J42 (1 : Int32) H locs hW hS ls (lv_sub hl [2, 1, 0] rfl) hR
