set_option maxHeartbeats 4000000 in
set_option maxRecDepth 100000 in
theorem c_X9_reads (l : Launch) (G : Gm) (A : Nat → Prop) (Ω : Om) (p0 : Nat) (p0_0 : Fn) (p0_1 : Fn) (p0_2 : Fn) (p0_3 : Fn) (p0_4 : Int32) (p0_5 : Fn) (p0_6 : Fn) (p0_7 : Fn) (p0_8 : Int32) (p0_9 : Int32) (p0_10 : Int32) (p0_11 : Int32) (p0_12 : Int32) (p0_13 : Int32) (x1 : Int32) (hM_p0 : ToldInv p0_0) (hp : 0 ≤ p0_4.toInt ∧ p0_4.toInt ≤ 6) (hn : 0 ≤ (p0_2 (72 : Int32).toNatClampNeg).toInt ∧ (p0_2 (72 : Int32).toNatClampNeg).toInt ≤ 20) (h_p0 : inMod G Ω p0 p0_0 p0_1 p0_2 p0_3 p0_4 p0_5 p0_6 p0_7 p0_8 p0_9 p0_10 p0_11 p0_12 p0_13) : Met l yX9_reads (wz yX9_reads cX9_reads 6 (some .int)) ({ frames := 4, cells := 0, slots := 0, locals := 91 } : Room) (va_Pc [.ref p0, .int x1] (oS G A Ω)) (va_Qi (fun (r : Int32) (Ω1 : Om) => r = (f_X9_reads p0_0 p0_2 p0_3 p0_4 x1).1 ∧ inMod G Ω1 p0 p0_0 p0_1 ((f_X9_reads p0_0 p0_2 p0_3 p0_4 x1).2.1) ((f_X9_reads p0_0 p0_2 p0_3 p0_4 x1).2.2.1) ((f_X9_reads p0_0 p0_2 p0_3 p0_4 x1).2.2.2) p0_5 p0_6 p0_7 p0_8 p0_9 p0_10 p0_11 p0_12 p0_13 ∧ (∀ q : Nat, (q < p0 ∨ p0 + 8 ≤ q) → Ω1 q = Ω q)) (oB G A) A) 0 0 A := by
  refine Met.ofW (cc := cX9_reads) (maxL := 6) (ret := (some .int)) (by decide) rfl ?_
  intro p e s m args below meth c s₁ B hml hv
  obtain ⟨rfl, hW, hK, hN, hZ⟩ := hv
  have hx := B.exec
  have hb := B.bytes
  have hr := B.returns
  have hts : ∀ w ∈ gt, w.before _ s = true := fun w hw => atoms_spec (ws := wz yX9_reads cX9_reads 6 (some .int)) B.pre w (List.mem_cons_of_mem _ hw)
  have hown : s.vm.findClass RX9 = some m.cls := findClass_of_methodNamed B.named
  have hlocks := B.notSynchronized
  have hA : ∀ q, A q → A q := fun _ h => h
  have hS : va_S A s.heap s.heap [] := va_S.rf
  have hS0 := hS
  have hl := lv_entry ([.ref p0, .int x1]) (n := 6) (Nat.le_of_ble_eq_true rfl)
  rw [lg_entry_eq]
  generalize (lg_sl ([.ref p0, .int x1]) ++ List.replicate (6 - (lg_sl ([.ref p0, .int x1])).length) Slot.unset).toArray = ls at hl ⊢
  have hl : lv_has ls 6 [(0, .ref p0), (1, .int x1)] := hl
  have hE : ∀ q : Nat, (q < p0 ∨ p0 + 8 ≤ q) → Ω q = Ω q := by intros; rfl
  generalize hR : (f_X9_reads p0_0 p0_2 p0_3 p0_4 x1) = R
  rw [f_X9_reads] at hR
  refine lv_iload_n hx hb dX9_reads_0 rfl (lv_at hl 1 rfl) ?_
  refine lv_iconst (v := (0 : Int32)) hx hb dX9_reads_1 (by decide) ?_
  refine lv_bipush (v := (15 : Int32)) hx hb dX9_reads_2 (by decide) ?_
  have j_1 : (0 : Int32).toInt = 0 := by decide
  have j_2 : (15 : Int32).toInt = 15 := by decide
  refine o_SiR (rest := []) (As := [.int x1, .int (0 : Int32), .int (15 : Int32)]) (n := 3) hx hb hml hown hts hK hN hZ hW hS hA (c_X9_in l G A Ω x1 (0 : Int32) (15 : Int32)) ml_X9_39 st_X9_in ini_X9 co_X9_in (by decide +kernel) ⟨Nat.zero_le _, Nat.zero_le _⟩ hl.1 (Nat.le_of_ble_eq_true rfl) rfl rfl dX9_reads_4 (fun r H locs hp hW hS => ?_)
  obtain ⟨rfl, hz_3⟩ := hp
  refine lv_if_ne (tgt := 12) hx hb dX9_reads_7 (by decide) (fun c_4 => ?_) (fun c_4 => ?_)
  · rw [if_neg c_4] at hR
    have i_4 := rne c_4
    have b_c_4 := rIN c_4
    refine lv_aload_n hx hb dX9_reads_12 rfl (lv_at hl 0 rfl) ?_
    refine o_get hx hb hts hown hK hW (inMod_o h_p0) rfl ig9 2 (by decide) fl_X9_16 rfl dX9_reads_13 ?_
    refine lv_bipush (v := (72 : Int32)) hx hb dX9_reads_16 (by decide) ?_
    have j_5 : (72 : Int32).toInt = 72 := by decide
    refine o_iald hx hb hK hW (inMod_a2 h_p0) (vp_in_iff.mpr ⟨by omega, by omega⟩) dX9_reads_18 ?_
    refine lv_bipush (v := (20 : Int32)) hx hb dX9_reads_19 (by decide) ?_
    have j_7 : (20 : Int32).toInt = 20 := by decide
    refine lv_icmp_ne (tgt := 27) hx hb dX9_reads_21 (by decide) (fun c_6 => ?_) (fun c_6 => ?_)
    · rw [if_neg c_6] at hR
      have i_6 := rne c_6
      refine lv_aload_n hx hb dX9_reads_27 rfl (lv_at hl 0 rfl) ?_
      refine o_Vv (rest := []) (As := []) (n := 0) hx hb hml hown hts hK hN hZ hW hS hA (c_X9_note l G A Ω p0 p0_0 p0_1 p0_2 p0_3 p0_4 p0_5 p0_6 p0_7 p0_8 p0_9 p0_10 p0_11 p0_12 p0_13 (by omega) h_p0) (inMod_o h_p0) rfl (good_V ml_X9_97 im_X9_note se_X9_note ini_X9 co_X9_note) (by decide +kernel) ⟨Nat.zero_le _, Nat.zero_le _⟩ hl.1 (Nat.le_of_ble_eq_true rfl) rfl rfl dX9_reads_28 (fun Ω_8 H locs hp hW hS => ?_)
      obtain ⟨h_p0, hF_8⟩ := hp
      have hE : ∀ q : Nat, (q < p0 ∨ p0 + 8 ≤ q) → Ω_8 q = Ω q := fun q g0 => (hF_8 q (by omega)).trans (hE q g0)
      generalize (f_X9_note p0_2 p0_3 p0_4) = Z_8 at h_p0 hR
      obtain ⟨z8_0, z8_1⟩ := Z_8
      dsimp only at h_p0 hR
      rw [f_X9_reads_C31] at hR
      refine lv_aload_n hx hb dX9_reads_31 rfl (lv_at hl 0 rfl) ?_
      refine lv_iload_n hx hb dX9_reads_32 rfl (lv_at hl 1 rfl) ?_
      refine o_ViR (rest := []) (As := [.int x1]) (n := 1) hx hb hml hown hts hK hN hZ hW hS hA (c_X9_goesTo l G A Ω_8 p0 p0_0 p0_1 p0_2 z8_0 z8_1 p0_5 p0_6 p0_7 p0_8 p0_9 p0_10 p0_11 p0_12 p0_13 x1 hM_p0 h_p0) (inMod_o h_p0) rfl (good_V ml_X9_64 im_X9_goesTo se_X9_goesTo ini_X9 co_X9_goesTo) (by decide +kernel) ⟨Nat.zero_le _, Nat.zero_le _⟩ hl.1 (Nat.le_of_ble_eq_true rfl) rfl rfl dX9_reads_33 (fun r H locs hp hW hS => ?_)
      subst hp
      refine lv_istore_n (lv' := [(2, .int (f_X9_goesTo p0_0 x1)), (0, .ref p0), (1, .int x1)]) hx hb dX9_reads_36 rfl hl (by decide) rfl (fun ls hl => ?_)
      refine lv_aload_n hx hb dX9_reads_37 rfl (lv_at hl 1 rfl) ?_
      refine lv_bipush (v := (36 : Int32)) hx hb dX9_reads_38 (by decide) ?_
      refine lv_iload_n hx hb dX9_reads_40 rfl (lv_at hl 2 rfl) ?_
      have j_10 : (36 : Int32).toInt = 36 := by decide
      refine o_ViR (rest := []) (As := [.int (36 : Int32), .int x1]) (n := 2) hx hb hml hown hts hK hN hZ hW hS hA (c_X9_peekAt l G A Ω_8 p0 p0_0 p0_1 p0_2 z8_0 z8_1 p0_5 p0_6 p0_7 p0_8 p0_9 p0_10 p0_11 p0_12 p0_13 (36 : Int32) x1 hM_p0 (by omega) h_p0) (inMod_o h_p0) rfl (good_V ml_X9_74 im_X9_peekAt se_X9_peekAt ini_X9 co_X9_peekAt) (by decide +kernel) ⟨Nat.zero_le _, Nat.zero_le _⟩ hl.1 (Nat.le_of_ble_eq_true rfl) rfl rfl dX9_reads_41 (fun r H locs hp hW hS => ?_)
      subst hp
      refine lv_istore_n (lv' := [(3, .int (f_X9_peekAt p0_0 p0_2 (36 : Int32) x1)), (2, .int (f_X9_goesTo p0_0 x1)), (0, .ref p0), (1, .int x1)]) hx hb dX9_reads_44 rfl hl (by decide) rfl (fun ls hl => ?_)
      refine lv_aload_n hx hb dX9_reads_45 rfl (lv_at hl 2 rfl) ?_
      refine lv_iconst (v := (0 : Int32)) hx hb dX9_reads_46 (by decide) ?_
      refine lv_iload_n hx hb dX9_reads_47 rfl (lv_at hl 3 rfl) ?_
      refine o_Vi (rest := []) (As := [.int (0 : Int32), .int x1]) (n := 2) hx hb hml hown hts hK hN hZ hW hS hA (c_X9_readOf l G A Ω_8 p0 p0_0 p0_1 p0_2 z8_0 z8_1 p0_5 p0_6 p0_7 p0_8 p0_9 p0_10 p0_11 p0_12 p0_13 (0 : Int32) x1 hM_p0 (by omega) h_p0) (inMod_o h_p0) rfl (good_V ml_X9_100 im_X9_readOf se_X9_readOf ini_X9 co_X9_readOf) (by decide +kernel) ⟨Nat.zero_le _, Nat.zero_le _⟩ hl.1 (Nat.le_of_ble_eq_true rfl) rfl rfl dX9_reads_48 (fun r Ω_12 H locs hp hW hS => ?_)
      obtain ⟨rfl, h_p0, hF_12⟩ := hp
      have hE : ∀ q : Nat, (q < p0 ∨ p0 + 8 ≤ q) → Ω_12 q = Ω q := fun q g0 => (hF_12 q (by omega)).trans (hE q g0)
      have q72_12 : (((f_X9_readOf p0_0 p0_2 (0 : Int32) x1).2) (72 : Int32).toNatClampNeg).toInt = (p0_2 (72 : Int32).toNatClampNeg).toInt := congrArg Int32.toInt (FR_readOf (j := 72) hM_p0 (by omega) (by omega))
      generalize (f_X9_readOf p0_0 p0_2 (0 : Int32) x1) = Z_12 at h_p0 hR q72_12 ⊢
      obtain ⟨z12_0, z12_1⟩ := Z_12
      dsimp only at h_p0 hR q72_12 ⊢
      rw [f_X9_reads_C51] at hR
      refine lv_istore (lv' := [(4, .int z12_0), (3, .int (f_X9_peekAt p0_0 p0_2 (36 : Int32) x1)), (2, .int (f_X9_goesTo p0_0 x1)), (0, .ref p0), (1, .int x1)]) hx hb dX9_reads_51 hl (by decide) rfl (fun ls hl => ?_)
      refine lv_iconst (v := (0 : Int32)) hx hb dX9_reads_53 (by decide) ?_
      refine lv_istore (lv' := [(5, .int (0 : Int32)), (4, .int z12_0), (3, .int (f_X9_peekAt p0_0 p0_2 (36 : Int32) x1)), (2, .int (f_X9_goesTo p0_0 x1)), (0, .ref p0), (1, .int x1)]) hx hb dX9_reads_54 hl (by decide) rfl (fun ls hl => ?_)
      have L56 : ∀ (n_14 : Nat) (x5_13 : Int32) (p0_2_13 : Fn) (Ω_15 : Om) (H : Heap) (locs : List Loc), (0 ≤ x5_13.toInt ∧ x5_13.toInt ≤ 12 ∧ 12 - x5_13.toInt < n_14) → (0 ≤ (p0_2_13 (72 : Int32).toNatClampNeg).toInt ∧ (p0_2_13 (72 : Int32).toNatClampNeg).toInt < 20) → inMod G Ω_15 p0 p0_0 p0_1 p0_2_13 z8_0 z8_1 p0_5 p0_6 p0_7 p0_8 p0_9 p0_10 p0_11 p0_12 p0_13 → (∀ q : Nat, (q < p0 ∨ p0 + 8 ≤ q) → Ω_15 q = Ω q) → oW G A Ω_15 H → va_S A s.heap H locs → ∀ ls : Array Slot, lv_has ls 6 [(0, .ref p0), (1, .int x1), (2, .int (f_X9_goesTo p0_0 x1)), (3, .int (f_X9_peekAt p0_0 p0_2 (36 : Int32) x1)), (4, .int z12_0), (5, .int x5_13)] → (f_X9_reads_L56 p0_0 z8_0 z8_1 x1 (f_X9_goesTo p0_0 x1) (f_X9_peekAt p0_0 p0_2 (36 : Int32) x1) z12_0 n_14 x5_13 p0_2_13) = R → W p l e (headSpec (wz yX9_reads cX9_reads 6 (some .int)) ({ frames := 4, cells := 0, slots := 0, locals := 91 } : Room)).room s m ([.ref p0, .int x1] : List Value).toArray below meth c H locs 0 0 (MQ below (va_Qi (fun (r : Int32) (Ω1 : Om) => r = R.1 ∧ inMod G Ω1 p0 p0_0 p0_1 (R.2.1) (R.2.2.1) (R.2.2.2) p0_5 p0_6 p0_7 p0_8 p0_9 p0_10 p0_11 p0_12 p0_13 ∧ (∀ q : Nat, (q < p0 ∨ p0 + 8 ≤ q) → Ω1 q = Ω q)) (oB G A) A) ([.ref p0, .int x1] : List Value).toArray s 0 0 A) (F0 m 56 ls []) := by
        intro n_14
        induction n_14 with
        | zero =>
          intro x5_13 p0_2_13 Ω_15 H locs v_56_0 v_56_1 h_p0 hE hW hS ls hl hR
          exfalso
          omega
        | succ n_14 ih56 =>
          intro x5_13 p0_2_13 Ω_15 H locs v_56_0 v_56_1 h_p0 hE hW hS ls hl hR
          rw [f_X9_reads_L56] at hR
          refine lv_iload hx hb dX9_reads_56 (lv_at hl 5 rfl) ?_
          refine lv_aload_n hx hb dX9_reads_58 rfl (lv_at hl 0 rfl) ?_
          refine o_ViR (rest := [.int x5_13]) (As := []) (n := 0) hx hb hml hown hts hK hN hZ hW hS hA (c_X9_fields l G A Ω_15 p0 p0_0 p0_1 p0_2_13 z8_0 z8_1 p0_5 p0_6 p0_7 p0_8 p0_9 p0_10 p0_11 p0_12 p0_13 hM_p0 h_p0) (inMod_o h_p0) rfl (good_V ml_X9_35 im_X9_fields se_X9_fields ini_X9 co_X9_fields) (by decide +kernel) ⟨Nat.zero_le _, Nat.zero_le _⟩ hl.1 (Nat.le_of_ble_eq_true rfl) rfl rfl dX9_reads_59 (fun r H locs hp hW hS => ?_)
          subst hp
          have J139 : ∀ (H : Heap) (locs : List Loc), oW G A Ω_15 H → va_S A s.heap H locs → ∀ ls : Array Slot, lv_has ls 6 [(0, .ref p0), (1, .int x1), (2, .int (f_X9_goesTo p0_0 x1)), (3, .int (f_X9_peekAt p0_0 p0_2 (36 : Int32) x1)), (4, .int z12_0)] → (f_X9_reads_J139 p0_0 p0_2_13 z8_0 z8_1 x1 (f_X9_goesTo p0_0 x1) (f_X9_peekAt p0_0 p0_2 (36 : Int32) x1) z12_0) = R → W p l e (headSpec (wz yX9_reads cX9_reads 6 (some .int)) ({ frames := 4, cells := 0, slots := 0, locals := 91 } : Room)).room s m ([.ref p0, .int x1] : List Value).toArray below meth c H locs 0 0 (MQ below (va_Qi (fun (r : Int32) (Ω1 : Om) => r = R.1 ∧ inMod G Ω1 p0 p0_0 p0_1 (R.2.1) (R.2.2.1) (R.2.2.2) p0_5 p0_6 p0_7 p0_8 p0_9 p0_10 p0_11 p0_12 p0_13 ∧ (∀ q : Nat, (q < p0 ∨ p0 + 8 ≤ q) → Ω1 q = Ω q)) (oB G A) A) ([.ref p0, .int x1] : List Value).toArray s 0 0 A) (F0 m 139 ls []) := by
            intro H locs hW hS ls hl hR
            rw [f_X9_reads_J139] at hR
            refine lv_iload_n hx hb dX9_reads_139 rfl (lv_at hl 2 rfl) ?_
            refine lv_bipush (v := (-9 : Int32)) hx hb dX9_reads_140 (by decide) ?_
            have J152 : ∀ (p0_2_18 : Fn) (Ω_19 : Om) (H : Heap) (locs : List Loc), (0 ≤ (p0_2_18 (72 : Int32).toNatClampNeg).toInt ∧ (p0_2_18 (72 : Int32).toNatClampNeg).toInt < 20) → inMod G Ω_19 p0 p0_0 p0_1 p0_2_18 z8_0 z8_1 p0_5 p0_6 p0_7 p0_8 p0_9 p0_10 p0_11 p0_12 p0_13 → (∀ q : Nat, (q < p0 ∨ p0 + 8 ≤ q) → Ω_19 q = Ω q) → oW G A Ω_19 H → va_S A s.heap H locs → ∀ ls : Array Slot, lv_has ls 6 [(0, .ref p0), (1, .int x1), (3, .int (f_X9_peekAt p0_0 p0_2 (36 : Int32) x1)), (4, .int z12_0)] → (f_X9_reads_J152 z8_0 z8_1 x1 (f_X9_peekAt p0_0 p0_2 (36 : Int32) x1) z12_0 p0_2_18) = R → W p l e (headSpec (wz yX9_reads cX9_reads 6 (some .int)) ({ frames := 4, cells := 0, slots := 0, locals := 91 } : Room)).room s m ([.ref p0, .int x1] : List Value).toArray below meth c H locs 0 0 (MQ below (va_Qi (fun (r : Int32) (Ω1 : Om) => r = R.1 ∧ inMod G Ω1 p0 p0_0 p0_1 (R.2.1) (R.2.2.1) (R.2.2.2) p0_5 p0_6 p0_7 p0_8 p0_9 p0_10 p0_11 p0_12 p0_13 ∧ (∀ q : Nat, (q < p0 ∨ p0 + 8 ≤ q) → Ω1 q = Ω q)) (oB G A) A) ([.ref p0, .int x1] : List Value).toArray s 0 0 A) (F0 m 152 ls []) := by
              intro p0_2_18 Ω_19 H locs v_152_0 h_p0 hE hW hS ls hl hR
              rw [f_X9_reads_J152] at hR
              refine lv_aload_n hx hb dX9_reads_152 rfl (lv_at hl 0 rfl) ?_
              refine o_get hx hb hts hown hK hW (inMod_o h_p0) rfl ig9 2 (by decide) fl_X9_16 rfl dX9_reads_153 ?_
              refine lv_sipush (v := (134 : Int32)) hx hb dX9_reads_156 (by decide) ?_
              refine lv_iload_n hx hb dX9_reads_159 rfl (lv_at hl 2 rfl) ?_
              refine lv_iload hx hb dX9_reads_160 (lv_at hl 3 rfl) ?_
              refine lv_ixor hx hb dX9_reads_162 ?_
              have j_20 : (134 : Int32).toInt = 134 := by decide
              refine wMod_2 hx hb hK hW hS hA h_p0 (vp_in_iff.mpr ⟨by omega, by omega⟩) dX9_reads_163 (fun Ω_21 H locs h_p0 hF_21 hW hS => ?_)
              have hE : ∀ q : Nat, (q < p0 ∨ p0 + 8 ≤ q) → Ω_21 q = Ω q := fun q g0 => (hF_21 q (by omega)).trans (hE q g0)
              refine lv_aload_n hx hb dX9_reads_164 rfl (lv_at hl 0 rfl) ?_
              refine o_get hx hb hts hown hK hW (inMod_o h_p0) rfl ig9 2 (by decide) fl_X9_16 rfl dX9_reads_165 ?_
              refine lv_sipush (v := (133 : Int32)) hx hb dX9_reads_168 (by decide) ?_
              refine lv_dup2_11 hx hb dX9_reads_171 rfl rfl ?_
              have j_22 : (133 : Int32).toInt = 133 := by decide
              refine o_iald hx hb hK hW (inMod_a2 h_p0) (vp_in_iff.mpr ⟨by omega, by omega⟩) dX9_reads_172 ?_
              refine lv_aload_n hx hb dX9_reads_173 rfl (lv_at hl 0 rfl) ?_
              refine o_get hx hb hts hown hK hW (inMod_o h_p0) rfl ig9 2 (by decide) fl_X9_16 rfl dX9_reads_174 ?_
              refine lv_sipush (v := (134 : Int32)) hx hb dX9_reads_177 (by decide) ?_
              refine o_iald hx hb hK hW (inMod_a2 h_p0) (vp_in_iff.mpr ⟨by omega, by omega⟩) dX9_reads_180 ?_
              have J189 : ∀ (s3_23 : Int32) (H : Heap) (locs : List Loc), oW G A Ω_21 H → va_S A s.heap H locs → ∀ ls : Array Slot, lv_has ls 6 [(0, .ref p0), (1, .int x1), (4, .int z12_0)] → (f_X9_reads_J189 (upd p0_2_18 (134 : Int32).toNatClampNeg ((f_X9_peekAt p0_0 p0_2 (36 : Int32) x1) ^^^ z12_0)) z8_0 z8_1 (133 : Int32) ((upd p0_2_18 (134 : Int32).toNatClampNeg ((f_X9_peekAt p0_0 p0_2 (36 : Int32) x1) ^^^ z12_0)) (133 : Int32).toNatClampNeg) x1 z12_0 s3_23) = R → W p l e (headSpec (wz yX9_reads cX9_reads 6 (some .int)) ({ frames := 4, cells := 0, slots := 0, locals := 91 } : Room)).room s m ([.ref p0, .int x1] : List Value).toArray below meth c H locs 0 0 (MQ below (va_Qi (fun (r : Int32) (Ω1 : Om) => r = R.1 ∧ inMod G Ω1 p0 p0_0 p0_1 (R.2.1) (R.2.2.1) (R.2.2.2) p0_5 p0_6 p0_7 p0_8 p0_9 p0_10 p0_11 p0_12 p0_13 ∧ (∀ q : Nat, (q < p0 ∨ p0 + 8 ≤ q) → Ω1 q = Ω q)) (oB G A) A) ([.ref p0, .int x1] : List Value).toArray s 0 0 A) (F0 m 189 ls [.int s3_23, .int ((upd p0_2_18 (134 : Int32).toNatClampNeg ((f_X9_peekAt p0_0 p0_2 (36 : Int32) x1) ^^^ z12_0)) (133 : Int32).toNatClampNeg), .int (133 : Int32), .ref (p0 + 3)]) := by
                intro s3_23 H locs hW hS ls hl hR
                rw [f_X9_reads_J189] at hR
                refine lv_iadd hx hb dX9_reads_189 ?_
                refine wMod_2 hx hb hK hW hS hA h_p0 (vp_in_iff.mpr ⟨by omega, by omega⟩) dX9_reads_190 (fun Ω_24 H locs h_p0 hF_24 hW hS => ?_)
                have hE : ∀ q : Nat, (q < p0 ∨ p0 + 8 ≤ q) → Ω_24 q = Ω q := fun q g0 => (hF_24 q (by omega)).trans (hE q g0)
                refine lv_aload_n hx hb dX9_reads_191 rfl (lv_at hl 0 rfl) ?_
                refine lv_iload_n hx hb dX9_reads_192 rfl (lv_at hl 1 rfl) ?_
                refine lv_iconst (v := (0 : Int32)) hx hb dX9_reads_193 (by decide) ?_
                refine lv_iload hx hb dX9_reads_194 (lv_at hl 2 rfl) ?_
                have q72 : 0 ≤ ((upd (upd p0_2_18 (134 : Int32).toNatClampNeg ((f_X9_peekAt p0_0 p0_2 (36 : Int32) x1) ^^^ z12_0)) (133 : Int32).toNatClampNeg (((upd p0_2_18 (134 : Int32).toNatClampNeg ((f_X9_peekAt p0_0 p0_2 (36 : Int32) x1) ^^^ z12_0)) (133 : Int32).toNatClampNeg) + s3_23)) (72 : Int32).toNatClampNeg).toInt ∧ ((upd (upd p0_2_18 (134 : Int32).toNatClampNeg ((f_X9_peekAt p0_0 p0_2 (36 : Int32) x1) ^^^ z12_0)) (133 : Int32).toNatClampNeg (((upd p0_2_18 (134 : Int32).toNatClampNeg ((f_X9_peekAt p0_0 p0_2 (36 : Int32) x1) ^^^ z12_0)) (133 : Int32).toNatClampNeg) + s3_23)) (72 : Int32).toNatClampNeg).toInt < 20 := by first | omega | (repeat rw [upd_o (n72 (by first | omega | decide) (by first | omega | decide))]) <;> omega
                refine o_Vv (rest := []) (As := [.int x1, .int (0 : Int32), .int z12_0]) (n := 3) hx hb hml hown hts hK hN hZ hW hS hA (c_X9_logs l G A Ω_24 p0 p0_0 p0_1 (upd (upd p0_2_18 (134 : Int32).toNatClampNeg ((f_X9_peekAt p0_0 p0_2 (36 : Int32) x1) ^^^ z12_0)) (133 : Int32).toNatClampNeg (((upd p0_2_18 (134 : Int32).toNatClampNeg ((f_X9_peekAt p0_0 p0_2 (36 : Int32) x1) ^^^ z12_0)) (133 : Int32).toNatClampNeg) + s3_23)) z8_0 z8_1 p0_5 p0_6 p0_7 p0_8 p0_9 p0_10 p0_11 p0_12 p0_13 x1 (0 : Int32) z12_0 (by omega) h_p0) (inMod_o h_p0) rfl (good_V ml_X9_103 im_X9_logs se_X9_logs ini_X9 co_X9_logs) (by decide +kernel) ⟨Nat.zero_le _, Nat.zero_le _⟩ hl.1 (Nat.le_of_ble_eq_true rfl) rfl rfl dX9_reads_196 (fun Ω_25 H locs hp hW hS => ?_)
                obtain ⟨h_p0, hF_25⟩ := hp
                have hE : ∀ q : Nat, (q < p0 ∨ p0 + 8 ≤ q) → Ω_25 q = Ω q := fun q g0 => (hF_25 q (by omega)).trans (hE q g0)
                refine lv_iload hx hb dX9_reads_199 (lv_at hl 2 rfl) ?_
                subst hR
                exact W.iret (v := z12_0) hx hb hr (fun t ht hW9 => ⟨⟨z12_0, Ω_25, rfl, ⟨rfl, h_p0, hE⟩, by rw [oB, ht]; exact hW⟩, hS.F ht⟩) hS.2.2 dX9_reads_201
              refine lv_if_eq (tgt := 188) hx hb dX9_reads_181 (by decide) (fun c_26 => ?_) (fun c_26 => ?_)
              · rw [if_pos c_26] at hR
                have i_26 := congrArg Int32.toInt c_26
                refine lv_iconst (v := (0 : Int32)) hx hb dX9_reads_188 (by decide) ?_
                exact J189 (0 : Int32) H locs hW hS ls (lv_sub hl [0, 1, 3] rfl) hR
              · rw [if_neg c_26] at hR
                have i_26 := rne c_26
                refine lv_iconst (v := (1 : Int32)) hx hb dX9_reads_184 (by decide) ?_
                refine lv_goto (tgt := 189) hx hb dX9_reads_185 (by decide) ?_
                have j_27 : (1 : Int32).toInt = 1 := by decide
                exact J189 (1 : Int32) H locs hW hS ls (lv_sub hl [0, 1, 3] rfl) hR
            try have j_29 : (f_X9_goesTo p0_0 x1).toInt = -9 ∨ (0 ≤ (f_X9_goesTo p0_0 x1).toInt ∧ (f_X9_goesTo p0_0 x1).toInt < 6) ∨ (100 ≤ (f_X9_goesTo p0_0 x1).toInt ∧ (f_X9_goesTo p0_0 x1).toInt < 104) := R_goesTo hM_p0 _
            have j_30 : (-9 : Int32).toInt = -9 := by decide
            refine lv_icmp_eq (tgt := 152) hx hb dX9_reads_142 (by decide) (fun c_28 => ?_) (fun c_28 => ?_)
            · rw [if_pos c_28] at hR
              have i_28 := congrArg Int32.toInt c_28
              have q72 : 0 ≤ (p0_2_13 (72 : Int32).toNatClampNeg).toInt ∧ (p0_2_13 (72 : Int32).toNatClampNeg).toInt < 20 := by first | omega | (repeat rw [upd_o (n72 (by first | omega | decide) (by first | omega | decide))]) <;> omega
              exact J152 p0_2_13 Ω_15 H locs (by omega) h_p0 hE hW hS ls (lv_sub hl [0, 1, 3, 4] rfl) hR
            · rw [if_neg c_28] at hR
              have i_28 := rne c_28
              refine lv_aload_n hx hb dX9_reads_145 rfl (lv_at hl 0 rfl) ?_
              refine lv_bipush (v := (36 : Int32)) hx hb dX9_reads_146 (by decide) ?_
              refine lv_iload_n hx hb dX9_reads_148 rfl (lv_at hl 2 rfl) ?_
              refine o_Vv (rest := []) (As := [.int (36 : Int32), .int (f_X9_goesTo p0_0 x1)]) (n := 2) hx hb hml hown hts hK hN hZ hW hS hA (c_X9_clearRead l G A Ω_15 p0 p0_0 p0_1 p0_2_13 z8_0 z8_1 p0_5 p0_6 p0_7 p0_8 p0_9 p0_10 p0_11 p0_12 p0_13 (36 : Int32) (f_X9_goesTo p0_0 x1) hM_p0 (by omega) h_p0) (inMod_o h_p0) rfl (good_V ml_X9_77 im_X9_clearRead se_X9_clearRead ini_X9 co_X9_clearRead) (by decide +kernel) ⟨Nat.zero_le _, Nat.zero_le _⟩ hl.1 (Nat.le_of_ble_eq_true rfl) rfl rfl dX9_reads_149 (fun Ω_31 H locs hp hW hS => ?_)
              obtain ⟨h_p0, hF_31⟩ := hp
              have hE : ∀ q : Nat, (q < p0 ∨ p0 + 8 ≤ q) → Ω_31 q = Ω q := fun q g0 => (hF_31 q (by omega)).trans (hE q g0)
              have q72_31 : ((f_X9_clearRead p0_0 p0_2_13 (36 : Int32) (f_X9_goesTo p0_0 x1)) (72 : Int32).toNatClampNeg).toInt = (p0_2_13 (72 : Int32).toNatClampNeg).toInt := congrArg Int32.toInt (FR_clearRead (j := 72) hM_p0 (by omega) (by omega))
              have q72 : 0 ≤ ((f_X9_clearRead p0_0 p0_2_13 (36 : Int32) (f_X9_goesTo p0_0 x1)) (72 : Int32).toNatClampNeg).toInt ∧ ((f_X9_clearRead p0_0 p0_2_13 (36 : Int32) (f_X9_goesTo p0_0 x1)) (72 : Int32).toNatClampNeg).toInt < 20 := by first | omega | (repeat rw [upd_o (n72 (by first | omega | decide) (by first | omega | decide))]) <;> omega
              exact J152 (f_X9_clearRead p0_0 p0_2_13 (36 : Int32) (f_X9_goesTo p0_0 x1)) Ω_31 H locs (by omega) h_p0 hE hW hS ls (lv_sub hl [0, 1, 3, 4] rfl) hR
          try have j_33 : 0 ≤ (f_X9_fields p0_0).toInt ∧ (f_X9_fields p0_0).toInt ≤ 12 := TI_91 hM_p0
          refine lv_icmp_ge (tgt := 139) hx hb dX9_reads_62 (by decide) (fun c_32 => ?_) (fun c_32 => ?_)
          · rw [if_pos c_32] at hR
            have i_32 := rle c_32
            exact J139 H locs hW hS ls (lv_sub hl [0, 1, 2, 3, 4] rfl) hR
          · rw [if_neg c_32] at hR
            have i_32 := rnle c_32
            refine lv_iload_n hx hb dX9_reads_65 rfl (lv_at hl 2 rfl) ?_
            refine lv_bipush (v := (-9 : Int32)) hx hb dX9_reads_66 (by decide) ?_
            try have j_35 : (f_X9_goesTo p0_0 x1).toInt = -9 ∨ (0 ≤ (f_X9_goesTo p0_0 x1).toInt ∧ (f_X9_goesTo p0_0 x1).toInt < 6) ∨ (100 ≤ (f_X9_goesTo p0_0 x1).toInt ∧ (f_X9_goesTo p0_0 x1).toInt < 104) := R_goesTo hM_p0 _
            have j_36 : (-9 : Int32).toInt = -9 := by decide
            refine lv_icmp_eq (tgt := 139) hx hb dX9_reads_68 (by decide) (fun c_34 => ?_) (fun c_34 => ?_)
            · rw [if_pos c_34] at hR
              have i_34 := congrArg Int32.toInt c_34
              exact J139 H locs hW hS ls (lv_sub hl [0, 1, 2, 3, 4] rfl) hR
            · rw [if_neg c_34] at hR
              have i_34 := rne c_34
              refine lv_aload_n hx hb dX9_reads_71 rfl (lv_at hl 0 rfl) ?_
              refine o_get hx hb hts hown hK hW (inMod_o h_p0) rfl ig9 0 (by decide) fl_X9_7 rfl dX9_reads_72 ?_
              refine lv_bipush (v := (18 : Int32)) hx hb dX9_reads_75 (by decide) ?_
              refine lv_iload hx hb dX9_reads_77 (lv_at hl 5 rfl) ?_
              refine lv_iadd hx hb dX9_reads_79 ?_
              have j_37 : (18 : Int32).toInt = 18 := by decide
              try have j_38 : ((18 : Int32) + x5_13).toInt = (18 : Int32).toInt + x5_13.toInt := fb_addI (by omega) (by omega)
              refine o_iald hx hb hK hW (inMod_a0 h_p0) (vp_in_iff.mpr ⟨by omega, by omega⟩) dX9_reads_80 ?_
              refine lv_aload_n hx hb dX9_reads_81 rfl (lv_at hl 0 rfl) ?_
              refine lv_iload_n hx hb dX9_reads_82 rfl (lv_at hl 2 rfl) ?_
              refine o_ViR (rest := [.int (p0_0 ((18 : Int32) + x5_13).toNatClampNeg)]) (As := [.int (f_X9_goesTo p0_0 x1)]) (n := 1) hx hb hml hown hts hK hN hZ hW hS hA (c_X9_registerOf l G A Ω_15 p0 p0_0 p0_1 p0_2_13 z8_0 z8_1 p0_5 p0_6 p0_7 p0_8 p0_9 p0_10 p0_11 p0_12 p0_13 (f_X9_goesTo p0_0 x1) hM_p0 (by omega) h_p0) (inMod_o h_p0) rfl (good_V ml_X9_67 im_X9_registerOf se_X9_registerOf ini_X9 co_X9_registerOf) (by decide +kernel) ⟨Nat.zero_le _, Nat.zero_le _⟩ hl.1 (Nat.le_of_ble_eq_true rfl) rfl rfl dX9_reads_83 (fun r H locs hp hW hS => ?_)
              subst hp
              try have j_41 : 0 ≤ (p0_0 ((18 : Int32) + x5_13).toNatClampNeg).toInt ∧ (p0_0 ((18 : Int32) + x5_13).toNatClampNeg).toInt < 6 := TI_18 hM_p0 (by omega) (by omega)
              try have j_42 : 0 ≤ (f_X9_registerOf p0_0 (f_X9_goesTo p0_0 x1)).toInt ∧ (f_X9_registerOf p0_0 (f_X9_goesTo p0_0 x1)).toInt < 6 := R_registerOf hM_p0 (by omega)
              refine lv_icmp_ne (tgt := 133) hx hb dX9_reads_86 (by decide) (fun c_40 => ?_) (fun c_40 => ?_)
              · rw [if_neg c_40] at hR
                have i_40 := rne c_40
                refine lv_iinc (v := (x5_13 + (1 : Int32))) (lv' := [(5, .int (x5_13 + (1 : Int32))), (0, .ref p0), (1, .int x1), (2, .int (f_X9_goesTo p0_0 x1)), (3, .int (f_X9_peekAt p0_0 p0_2 (36 : Int32) x1)), (4, .int z12_0)]) hx hb dX9_reads_133 hl (k := 5) rfl rfl (by decide) rfl (fun ls hl => ?_)
                refine lv_goto (tgt := 56) hx hb dX9_reads_136 (by decide) ?_
                have j_43 : (1 : Int32).toInt = 1 := by decide
                try have j_44 : (x5_13 + (1 : Int32)).toInt = x5_13.toInt + (1 : Int32).toInt := fb_addI (by omega) (by omega)
                have q72 : 0 ≤ (p0_2_13 (72 : Int32).toNatClampNeg).toInt ∧ (p0_2_13 (72 : Int32).toNatClampNeg).toInt < 20 := by first | omega | (repeat rw [upd_o (n72 (by first | omega | decide) (by first | omega | decide))]) <;> omega
                exact ih56 (x5_13 + (1 : Int32)) p0_2_13 Ω_15 H locs (by omega) (by omega) h_p0 hE hW hS ls (lv_sub hl [1, 2, 3, 4, 5, 0] rfl) hR
              · rw [if_pos c_40] at hR
                have i_40 := congrArg Int32.toInt c_40
                refine lv_aload_n hx hb dX9_reads_89 rfl (lv_at hl 0 rfl) ?_
                refine o_get hx hb hts hown hK hW (inMod_o h_p0) rfl ig9 2 (by decide) fl_X9_16 rfl dX9_reads_90 ?_
                refine lv_bipush (v := (48 : Int32)) hx hb dX9_reads_93 (by decide) ?_
                refine lv_iload hx hb dX9_reads_95 (lv_at hl 5 rfl) ?_
                refine lv_iadd hx hb dX9_reads_97 ?_
                have j_45 : (48 : Int32).toInt = 48 := by decide
                try have j_46 : ((48 : Int32) + x5_13).toInt = (48 : Int32).toInt + x5_13.toInt := fb_addI (by omega) (by omega)
                refine o_iald hx hb hK hW (inMod_a2 h_p0) (vp_in_iff.mpr ⟨by omega, by omega⟩) dX9_reads_98 ?_
                refine lv_iconst (v := (2 : Int32)) hx hb dX9_reads_99 (by decide) ?_
                have j_48 : (2 : Int32).toInt = 2 := by decide
                refine lv_icmp_eq (tgt := 133) hx hb dX9_reads_100 (by decide) (fun c_47 => ?_) (fun c_47 => ?_)
                · rw [if_pos c_47] at hR
                  have i_47 := congrArg Int32.toInt c_47
                  refine lv_iinc (v := (x5_13 + (1 : Int32))) (lv' := [(5, .int (x5_13 + (1 : Int32))), (0, .ref p0), (1, .int x1), (2, .int (f_X9_goesTo p0_0 x1)), (3, .int (f_X9_peekAt p0_0 p0_2 (36 : Int32) x1)), (4, .int z12_0)]) hx hb dX9_reads_133 hl (k := 5) rfl rfl (by decide) rfl (fun ls hl => ?_)
                  refine lv_goto (tgt := 56) hx hb dX9_reads_136 (by decide) ?_
                  have j_49 : (1 : Int32).toInt = 1 := by decide
                  try have j_50 : (x5_13 + (1 : Int32)).toInt = x5_13.toInt + (1 : Int32).toInt := fb_addI (by omega) (by omega)
                  have q72 : 0 ≤ (p0_2_13 (72 : Int32).toNatClampNeg).toInt ∧ (p0_2_13 (72 : Int32).toNatClampNeg).toInt < 20 := by first | omega | (repeat rw [upd_o (n72 (by first | omega | decide) (by first | omega | decide))]) <;> omega
                  exact ih56 (x5_13 + (1 : Int32)) p0_2_13 Ω_15 H locs (by omega) (by omega) h_p0 hE hW hS ls (lv_sub hl [1, 2, 3, 4, 5, 0] rfl) hR
                · rw [if_neg c_47] at hR
                  have i_47 := rne c_47
                  refine lv_aload_n hx hb dX9_reads_103 rfl (lv_at hl 0 rfl) ?_
                  refine o_get hx hb hts hown hK hW (inMod_o h_p0) rfl ig9 2 (by decide) fl_X9_16 rfl dX9_reads_104 ?_
                  refine lv_bipush (v := (36 : Int32)) hx hb dX9_reads_107 (by decide) ?_
                  refine lv_iload hx hb dX9_reads_109 (lv_at hl 5 rfl) ?_
                  refine lv_iadd hx hb dX9_reads_111 ?_
                  refine lv_iload hx hb dX9_reads_112 (lv_at hl 4 rfl) ?_
                  refine lv_aload_n hx hb dX9_reads_114 rfl (lv_at hl 0 rfl) ?_
                  refine o_get hx hb hts hown hK hW (inMod_o h_p0) rfl ig9 0 (by decide) fl_X9_7 rfl dX9_reads_115 ?_
                  refine lv_bipush (v := (30 : Int32)) hx hb dX9_reads_118 (by decide) ?_
                  refine lv_iload hx hb dX9_reads_120 (lv_at hl 5 rfl) ?_
                  refine lv_iadd hx hb dX9_reads_122 ?_
                  have j_51 : (30 : Int32).toInt = 30 := by decide
                  try have j_52 : ((30 : Int32) + x5_13).toInt = (30 : Int32).toInt + x5_13.toInt := fb_addI (by omega) (by omega)
                  refine o_iald hx hb hK hW (inMod_a0 h_p0) (vp_in_iff.mpr ⟨by omega, by omega⟩) dX9_reads_123 ?_
                  refine lv_ishr hx hb dX9_reads_124 ?_
                  refine lv_aload_n hx hb dX9_reads_125 rfl (lv_at hl 0 rfl) ?_
                  refine lv_iload hx hb dX9_reads_126 (lv_at hl 5 rfl) ?_
                  refine o_ViR (rest := [.int (z12_0 >>> ((p0_0 ((30 : Int32) + x5_13).toNatClampNeg) &&& 31)), .int ((36 : Int32) + x5_13), .ref (p0 + 3)]) (As := [.int x5_13]) (n := 1) hx hb hml hown hts hK hN hZ hW hS hA (c_X9_most l G A Ω_15 p0 p0_0 p0_1 p0_2_13 z8_0 z8_1 p0_5 p0_6 p0_7 p0_8 p0_9 p0_10 p0_11 p0_12 p0_13 x5_13 hM_p0 (by omega) h_p0) (inMod_o h_p0) rfl (good_V ml_X9_46 im_X9_most se_X9_most ini_X9 co_X9_most) (by decide +kernel) ⟨Nat.zero_le _, Nat.zero_le _⟩ hl.1 (Nat.le_of_ble_eq_true rfl) rfl rfl dX9_reads_128 (fun r H locs hp hW hS => ?_)
                  subst hp
                  refine lv_iand hx hb dX9_reads_131 ?_
                  try have j_54 : ((36 : Int32) + x5_13).toInt = (36 : Int32).toInt + x5_13.toInt := fb_addI (by omega) (by omega)
                  refine wMod_2 hx hb hK hW hS hA h_p0 (vp_in_iff.mpr ⟨by omega, by omega⟩) dX9_reads_132 (fun Ω_55 H locs h_p0 hF_55 hW hS => ?_)
                  have hE : ∀ q : Nat, (q < p0 ∨ p0 + 8 ≤ q) → Ω_55 q = Ω q := fun q g0 => (hF_55 q (by omega)).trans (hE q g0)
                  refine lv_iinc (v := (x5_13 + (1 : Int32))) (lv' := [(5, .int (x5_13 + (1 : Int32))), (0, .ref p0), (1, .int x1), (2, .int (f_X9_goesTo p0_0 x1)), (3, .int (f_X9_peekAt p0_0 p0_2 (36 : Int32) x1)), (4, .int z12_0)]) hx hb dX9_reads_133 hl (k := 5) rfl rfl (by decide) rfl (fun ls hl => ?_)
                  refine lv_goto (tgt := 56) hx hb dX9_reads_136 (by decide) ?_
                  have j_56 : (1 : Int32).toInt = 1 := by decide
                  try have j_57 : (x5_13 + (1 : Int32)).toInt = x5_13.toInt + (1 : Int32).toInt := fb_addI (by omega) (by omega)
                  have q72 : 0 ≤ ((upd p0_2_13 ((36 : Int32) + x5_13).toNatClampNeg ((z12_0 >>> ((p0_0 ((30 : Int32) + x5_13).toNatClampNeg) &&& 31)) &&& (f_X9_most p0_0 x5_13))) (72 : Int32).toNatClampNeg).toInt ∧ ((upd p0_2_13 ((36 : Int32) + x5_13).toNatClampNeg ((z12_0 >>> ((p0_0 ((30 : Int32) + x5_13).toNatClampNeg) &&& 31)) &&& (f_X9_most p0_0 x5_13))) (72 : Int32).toNatClampNeg).toInt < 20 := by first | omega | (repeat rw [upd_o (n72 (by first | omega | decide) (by first | omega | decide))]) <;> omega
                  exact ih56 (x5_13 + (1 : Int32)) (upd p0_2_13 ((36 : Int32) + x5_13).toNatClampNeg ((z12_0 >>> ((p0_0 ((30 : Int32) + x5_13).toNatClampNeg) &&& 31)) &&& (f_X9_most p0_0 x5_13))) Ω_55 H locs (by omega) (by omega) h_p0 hE hW hS ls (lv_sub hl [1, 2, 3, 4, 5, 0] rfl) hR
      have q72 : 0 ≤ (z12_1 (72 : Int32).toNatClampNeg).toInt ∧ (z12_1 (72 : Int32).toNatClampNeg).toInt < 20 := by first | omega | (repeat rw [upd_o (n72 (by first | omega | decide) (by first | omega | decide))]) <;> omega
      exact L56 4000 (0 : Int32) z12_1 Ω_12 H locs (by omega) (by omega) h_p0 hE hW hS ls (lv_sub hl [4, 5, 3, 2, 1, 0] rfl) hR
    · rw [if_pos c_6] at hR
      have i_6 := congrArg Int32.toInt c_6
      refine lv_bipush (v := (-3 : Int32)) hx hb dX9_reads_24 (by decide) ?_
      subst hR
      exact W.iret (v := (-3 : Int32)) hx hb hr (fun t ht hW9 => ⟨⟨(-3 : Int32), Ω, rfl, ⟨rfl, h_p0, hE⟩, by rw [oB, ht]; exact hW⟩, hS.F ht⟩) hS.2.2 dX9_reads_26
  · rw [if_pos c_4] at hR
    have i_4 := congrArg Int32.toInt c_4
    refine lv_iconst (v := (-1 : Int32)) hx hb dX9_reads_10 (by decide) ?_
    subst hR
    exact W.iret (v := (-1 : Int32)) hx hb hr (fun t ht hW9 => ⟨⟨(-1 : Int32), Ω, rfl, ⟨rfl, h_p0, hE⟩, by rw [oB, ht]; exact hW⟩, hS.F ht⟩) hS.2.2 dX9_reads_11
set_option maxHeartbeats 4000000 in
set_option maxRecDepth 100000 in
theorem c_X9_writes (l : Launch) (G : Gm) (A : Nat → Prop) (Ω : Om) (p0 : Nat) (p0_0 : Fn) (p0_1 : Fn) (p0_2 : Fn) (p0_3 : Fn) (p0_4 : Int32) (p0_5 : Fn) (p0_6 : Fn) (p0_7 : Fn) (p0_8 : Int32) (p0_9 : Int32) (p0_10 : Int32) (p0_11 : Int32) (p0_12 : Int32) (p0_13 : Int32) (x1 : Int32) (x2 : Int32) (hM_p0 : ToldInv p0_0) (hp : 0 ≤ p0_4.toInt ∧ p0_4.toInt ≤ 6) (hn : 0 ≤ (p0_2 (72 : Int32).toNatClampNeg).toInt ∧ (p0_2 (72 : Int32).toNatClampNeg).toInt ≤ 20) (h_p0 : inMod G Ω p0 p0_0 p0_1 p0_2 p0_3 p0_4 p0_5 p0_6 p0_7 p0_8 p0_9 p0_10 p0_11 p0_12 p0_13) : Met l yX9_writes (wz yX9_writes cX9_writes 3 (some .int)) ({ frames := 4, cells := 0, slots := 0, locals := 102 } : Room) (va_Pc [.ref p0, .int x1, .int x2] (oS G A Ω)) (va_Qi (fun (r : Int32) (Ω1 : Om) => r = (f_X9_writes p0_0 p0_2 p0_3 p0_4 x1 x2).1 ∧ inMod G Ω1 p0 p0_0 p0_1 ((f_X9_writes p0_0 p0_2 p0_3 p0_4 x1 x2).2.1) ((f_X9_writes p0_0 p0_2 p0_3 p0_4 x1 x2).2.2.1) ((f_X9_writes p0_0 p0_2 p0_3 p0_4 x1 x2).2.2.2) p0_5 p0_6 p0_7 p0_8 p0_9 p0_10 p0_11 p0_12 p0_13 ∧ (∀ q : Nat, (q < p0 ∨ p0 + 8 ≤ q) → Ω1 q = Ω q)) (oB G A) A) 0 0 A := by
  refine Met.ofW (cc := cX9_writes) (maxL := 3) (ret := (some .int)) (by decide) rfl ?_
  intro p e s m args below meth c s₁ B hml hv
  obtain ⟨rfl, hW, hK, hN, hZ⟩ := hv
  have hx := B.exec
  have hb := B.bytes
  have hr := B.returns
  have hts : ∀ w ∈ gt, w.before _ s = true := fun w hw => atoms_spec (ws := wz yX9_writes cX9_writes 3 (some .int)) B.pre w (List.mem_cons_of_mem _ hw)
  have hown : s.vm.findClass RX9 = some m.cls := findClass_of_methodNamed B.named
  have hlocks := B.notSynchronized
  have hA : ∀ q, A q → A q := fun _ h => h
  have hS : va_S A s.heap s.heap [] := va_S.rf
  have hS0 := hS
  have hl := lv_entry ([.ref p0, .int x1, .int x2]) (n := 3) (Nat.le_of_ble_eq_true rfl)
  rw [lg_entry_eq]
  generalize (lg_sl ([.ref p0, .int x1, .int x2]) ++ List.replicate (3 - (lg_sl ([.ref p0, .int x1, .int x2])).length) Slot.unset).toArray = ls at hl ⊢
  have hl : lv_has ls 3 [(0, .ref p0), (1, .int x1), (2, .int x2)] := hl
  have hE : ∀ q : Nat, (q < p0 ∨ p0 + 8 ≤ q) → Ω q = Ω q := by intros; rfl
  generalize hR : (f_X9_writes p0_0 p0_2 p0_3 p0_4 x1 x2) = R
  rw [f_X9_writes] at hR
  refine lv_iload_n hx hb dX9_writes_0 rfl (lv_at hl 1 rfl) ?_
  refine lv_iconst (v := (0 : Int32)) hx hb dX9_writes_1 (by decide) ?_
  refine lv_bipush (v := (15 : Int32)) hx hb dX9_writes_2 (by decide) ?_
  have j_1 : (0 : Int32).toInt = 0 := by decide
  have j_2 : (15 : Int32).toInt = 15 := by decide
  refine o_SiR (rest := []) (As := [.int x1, .int (0 : Int32), .int (15 : Int32)]) (n := 3) hx hb hml hown hts hK hN hZ hW hS hA (c_X9_in l G A Ω x1 (0 : Int32) (15 : Int32)) ml_X9_39 st_X9_in ini_X9 co_X9_in (by decide +kernel) ⟨Nat.zero_le _, Nat.zero_le _⟩ hl.1 (Nat.le_of_ble_eq_true rfl) rfl rfl dX9_writes_4 (fun r H locs hp hW hS => ?_)
  obtain ⟨rfl, hz_3⟩ := hp
  refine lv_if_eq (tgt := 21) hx hb dX9_writes_7 (by decide) (fun c_4 => ?_) (fun c_4 => ?_)
  · rw [if_pos c_4] at hR
    have i_4 := congrArg Int32.toInt c_4
    refine lv_iconst (v := (-1 : Int32)) hx hb dX9_writes_21 (by decide) ?_
    subst hR
    exact W.iret (v := (-1 : Int32)) hx hb hr (fun t ht hW9 => ⟨⟨(-1 : Int32), Ω, rfl, ⟨rfl, h_p0, hE⟩, by rw [oB, ht]; exact hW⟩, hS.F ht⟩) hS.2.2 dX9_writes_22
  · rw [if_neg c_4] at hR
    have i_4 := rne c_4
    have b_c_4 := rIN c_4
    refine lv_iload_n hx hb dX9_writes_10 rfl (lv_at hl 2 rfl) ?_
    refine lv_iconst (v := (0 : Int32)) hx hb dX9_writes_11 (by decide) ?_
    refine lv_sipush (v := (255 : Int32)) hx hb dX9_writes_12 (by decide) ?_
    have j_5 : (255 : Int32).toInt = 255 := by decide
    refine o_SiR (rest := []) (As := [.int x2, .int (0 : Int32), .int (255 : Int32)]) (n := 3) hx hb hml hown hts hK hN hZ hW hS hA (c_X9_in l G A Ω x2 (0 : Int32) (255 : Int32)) ml_X9_39 st_X9_in ini_X9 co_X9_in (by decide +kernel) ⟨Nat.zero_le _, Nat.zero_le _⟩ hl.1 (Nat.le_of_ble_eq_true rfl) rfl rfl dX9_writes_15 (fun r H locs hp hW hS => ?_)
    obtain ⟨rfl, hz_6⟩ := hp
    refine lv_if_ne (tgt := 23) hx hb dX9_writes_18 (by decide) (fun c_7 => ?_) (fun c_7 => ?_)
    · rw [if_neg c_7] at hR
      have i_7 := rne c_7
      have b_c_7 := rIN c_7
      refine lv_aload_n hx hb dX9_writes_23 rfl (lv_at hl 0 rfl) ?_
      refine o_get hx hb hts hown hK hW (inMod_o h_p0) rfl ig9 2 (by decide) fl_X9_16 rfl dX9_writes_24 ?_
      refine lv_bipush (v := (72 : Int32)) hx hb dX9_writes_27 (by decide) ?_
      have j_8 : (72 : Int32).toInt = 72 := by decide
      refine o_iald hx hb hK hW (inMod_a2 h_p0) (vp_in_iff.mpr ⟨by omega, by omega⟩) dX9_writes_29 ?_
      refine lv_bipush (v := (20 : Int32)) hx hb dX9_writes_30 (by decide) ?_
      have j_10 : (20 : Int32).toInt = 20 := by decide
      refine lv_icmp_ne (tgt := 38) hx hb dX9_writes_32 (by decide) (fun c_9 => ?_) (fun c_9 => ?_)
      · rw [if_neg c_9] at hR
        have i_9 := rne c_9
        refine lv_aload_n hx hb dX9_writes_38 rfl (lv_at hl 0 rfl) ?_
        refine o_Vv (rest := []) (As := []) (n := 0) hx hb hml hown hts hK hN hZ hW hS hA (c_X9_note l G A Ω p0 p0_0 p0_1 p0_2 p0_3 p0_4 p0_5 p0_6 p0_7 p0_8 p0_9 p0_10 p0_11 p0_12 p0_13 (by omega) h_p0) (inMod_o h_p0) rfl (good_V ml_X9_97 im_X9_note se_X9_note ini_X9 co_X9_note) (by decide +kernel) ⟨Nat.zero_le _, Nat.zero_le _⟩ hl.1 (Nat.le_of_ble_eq_true rfl) rfl rfl dX9_writes_39 (fun Ω_11 H locs hp hW hS => ?_)
        obtain ⟨h_p0, hF_11⟩ := hp
        have hE : ∀ q : Nat, (q < p0 ∨ p0 + 8 ≤ q) → Ω_11 q = Ω q := fun q g0 => (hF_11 q (by omega)).trans (hE q g0)
        generalize (f_X9_note p0_2 p0_3 p0_4) = Z_11 at h_p0 hR
        obtain ⟨z11_0, z11_1⟩ := Z_11
        dsimp only at h_p0 hR
        rw [f_X9_writes_C42] at hR
        refine lv_aload_n hx hb dX9_writes_42 rfl (lv_at hl 0 rfl) ?_
        refine lv_iconst (v := (0 : Int32)) hx hb dX9_writes_43 (by decide) ?_
        refine lv_sipush (v := (135 : Int32)) hx hb dX9_writes_44 (by decide) ?_
        have j_12 : (135 : Int32).toInt = 135 := by decide
        refine o_Vv (rest := []) (As := [.int (0 : Int32), .int (135 : Int32)]) (n := 2) hx hb hml hown hts hK hN hZ hW hS hA (c_X9_copyMachine l G A Ω_11 p0 p0_0 p0_1 p0_2 z11_0 z11_1 p0_5 p0_6 p0_7 p0_8 p0_9 p0_10 p0_11 p0_12 p0_13 (0 : Int32) (135 : Int32) (by omega) (by omega) h_p0) (inMod_o h_p0) rfl (good_V ml_X9_106 im_X9_copyMachine se_X9_copyMachine ini_X9 co_X9_copyMachine) (by decide +kernel) ⟨Nat.zero_le _, Nat.zero_le _⟩ hl.1 (Nat.le_of_ble_eq_true rfl) rfl rfl dX9_writes_47 (fun Ω_13 H locs hp hW hS => ?_)
        obtain ⟨h_p0, hF_13⟩ := hp
        have hE : ∀ q : Nat, (q < p0 ∨ p0 + 8 ≤ q) → Ω_13 q = Ω q := fun q g0 => (hF_13 q (by omega)).trans (hE q g0)
        have q72_13 : ((f_X9_copyMachine p0_2 (0 : Int32) (135 : Int32)) (72 : Int32).toNatClampNeg).toInt = (p0_2 (72 : Int32).toNatClampNeg).toInt := congrArg Int32.toInt (FR_copyMachine (j := 72) (by omega) (by omega) (by omega))
        refine lv_aload_n hx hb dX9_writes_50 rfl (lv_at hl 0 rfl) ?_
        refine lv_iconst (v := (0 : Int32)) hx hb dX9_writes_51 (by decide) ?_
        refine lv_iload_n hx hb dX9_writes_52 rfl (lv_at hl 1 rfl) ?_
        refine lv_iload_n hx hb dX9_writes_53 rfl (lv_at hl 2 rfl) ?_
        refine o_Vv (rest := []) (As := [.int (0 : Int32), .int x1, .int x2]) (n := 3) hx hb hml hown hts hK hN hZ hW hS hA (c_X9_writeTo l G A Ω_13 p0 p0_0 p0_1 (f_X9_copyMachine p0_2 (0 : Int32) (135 : Int32)) z11_0 z11_1 p0_5 p0_6 p0_7 p0_8 p0_9 p0_10 p0_11 p0_12 p0_13 (0 : Int32) x1 x2 hM_p0 (by omega) h_p0) (inMod_o h_p0) rfl (good_V ml_X9_109 im_X9_writeTo se_X9_writeTo ini_X9 co_X9_writeTo) (by decide +kernel) ⟨Nat.zero_le _, Nat.zero_le _⟩ hl.1 (Nat.le_of_ble_eq_true rfl) rfl rfl dX9_writes_54 (fun Ω_14 H locs hp hW hS => ?_)
        obtain ⟨h_p0, hF_14⟩ := hp
        have hE : ∀ q : Nat, (q < p0 ∨ p0 + 8 ≤ q) → Ω_14 q = Ω q := fun q g0 => (hF_14 q (by omega)).trans (hE q g0)
        have q72_14 : ((f_X9_writeTo p0_0 (f_X9_copyMachine p0_2 (0 : Int32) (135 : Int32)) (0 : Int32) x1 x2) (72 : Int32).toNatClampNeg).toInt = ((f_X9_copyMachine p0_2 (0 : Int32) (135 : Int32)) (72 : Int32).toNatClampNeg).toInt := congrArg Int32.toInt (FR_writeTo (j := 72) hM_p0 (by omega) (by omega))
        refine lv_aload_n hx hb dX9_writes_57 rfl (lv_at hl 0 rfl) ?_
        refine lv_bipush (v := (36 : Int32)) hx hb dX9_writes_58 (by decide) ?_
        refine lv_iload_n hx hb dX9_writes_60 rfl (lv_at hl 1 rfl) ?_
        refine lv_iload_n hx hb dX9_writes_61 rfl (lv_at hl 2 rfl) ?_
        have j_15 : (36 : Int32).toInt = 36 := by decide
        refine o_Vv (rest := []) (As := [.int (36 : Int32), .int x1, .int x2]) (n := 3) hx hb hml hown hts hK hN hZ hW hS hA (c_X9_writeTo l G A Ω_14 p0 p0_0 p0_1 (f_X9_writeTo p0_0 (f_X9_copyMachine p0_2 (0 : Int32) (135 : Int32)) (0 : Int32) x1 x2) z11_0 z11_1 p0_5 p0_6 p0_7 p0_8 p0_9 p0_10 p0_11 p0_12 p0_13 (36 : Int32) x1 x2 hM_p0 (by omega) h_p0) (inMod_o h_p0) rfl (good_V ml_X9_109 im_X9_writeTo se_X9_writeTo ini_X9 co_X9_writeTo) (by decide +kernel) ⟨Nat.zero_le _, Nat.zero_le _⟩ hl.1 (Nat.le_of_ble_eq_true rfl) rfl rfl dX9_writes_62 (fun Ω_16 H locs hp hW hS => ?_)
        obtain ⟨h_p0, hF_16⟩ := hp
        have hE : ∀ q : Nat, (q < p0 ∨ p0 + 8 ≤ q) → Ω_16 q = Ω q := fun q g0 => (hF_16 q (by omega)).trans (hE q g0)
        have q72_16 : ((f_X9_writeTo p0_0 (f_X9_writeTo p0_0 (f_X9_copyMachine p0_2 (0 : Int32) (135 : Int32)) (0 : Int32) x1 x2) (36 : Int32) x1 x2) (72 : Int32).toNatClampNeg).toInt = ((f_X9_writeTo p0_0 (f_X9_copyMachine p0_2 (0 : Int32) (135 : Int32)) (0 : Int32) x1 x2) (72 : Int32).toNatClampNeg).toInt := congrArg Int32.toInt (FR_writeTo (j := 72) hM_p0 (by omega) (by omega))
        refine lv_aload_n hx hb dX9_writes_65 rfl (lv_at hl 0 rfl) ?_
        refine lv_iload_n hx hb dX9_writes_66 rfl (lv_at hl 1 rfl) ?_
        refine lv_iconst (v := (1 : Int32)) hx hb dX9_writes_67 (by decide) ?_
        refine lv_iload_n hx hb dX9_writes_68 rfl (lv_at hl 2 rfl) ?_
        have j_17 : (1 : Int32).toInt = 1 := by decide
        have q72 : 0 ≤ ((f_X9_writeTo p0_0 (f_X9_writeTo p0_0 (f_X9_copyMachine p0_2 (0 : Int32) (135 : Int32)) (0 : Int32) x1 x2) (36 : Int32) x1 x2) (72 : Int32).toNatClampNeg).toInt ∧ ((f_X9_writeTo p0_0 (f_X9_writeTo p0_0 (f_X9_copyMachine p0_2 (0 : Int32) (135 : Int32)) (0 : Int32) x1 x2) (36 : Int32) x1 x2) (72 : Int32).toNatClampNeg).toInt < 20 := by first | omega | (repeat rw [upd_o (n72 (by first | omega | decide) (by first | omega | decide))]) <;> omega
        refine o_Vv (rest := []) (As := [.int x1, .int (1 : Int32), .int x2]) (n := 3) hx hb hml hown hts hK hN hZ hW hS hA (c_X9_logs l G A Ω_16 p0 p0_0 p0_1 (f_X9_writeTo p0_0 (f_X9_writeTo p0_0 (f_X9_copyMachine p0_2 (0 : Int32) (135 : Int32)) (0 : Int32) x1 x2) (36 : Int32) x1 x2) z11_0 z11_1 p0_5 p0_6 p0_7 p0_8 p0_9 p0_10 p0_11 p0_12 p0_13 x1 (1 : Int32) x2 (by omega) h_p0) (inMod_o h_p0) rfl (good_V ml_X9_103 im_X9_logs se_X9_logs ini_X9 co_X9_logs) (by decide +kernel) ⟨Nat.zero_le _, Nat.zero_le _⟩ hl.1 (Nat.le_of_ble_eq_true rfl) rfl rfl dX9_writes_69 (fun Ω_18 H locs hp hW hS => ?_)
        obtain ⟨h_p0, hF_18⟩ := hp
        have hE : ∀ q : Nat, (q < p0 ∨ p0 + 8 ≤ q) → Ω_18 q = Ω q := fun q g0 => (hF_18 q (by omega)).trans (hE q g0)
        refine lv_aload_n hx hb dX9_writes_72 rfl (lv_at hl 0 rfl) ?_
        refine lv_iconst (v := (0 : Int32)) hx hb dX9_writes_73 (by decide) ?_
        refine lv_sipush (v := (135 : Int32)) hx hb dX9_writes_74 (by decide) ?_
        refine o_ViR (rest := []) (As := [.int (0 : Int32), .int (135 : Int32)]) (n := 2) hx hb hml hown hts hK hN hZ hW hS hA (c_X9_otherFields l G A Ω_18 p0 p0_0 p0_1 (f_X9_logs (f_X9_writeTo p0_0 (f_X9_writeTo p0_0 (f_X9_copyMachine p0_2 (0 : Int32) (135 : Int32)) (0 : Int32) x1 x2) (36 : Int32) x1 x2) x1 (1 : Int32) x2) z11_0 z11_1 p0_5 p0_6 p0_7 p0_8 p0_9 p0_10 p0_11 p0_12 p0_13 (0 : Int32) (135 : Int32) hM_p0 (by omega) (by omega) h_p0) (inMod_o h_p0) rfl (good_V ml_X9_112 im_X9_otherFields se_X9_otherFields ini_X9 co_X9_otherFields) (by decide +kernel) ⟨Nat.zero_le _, Nat.zero_le _⟩ hl.1 (Nat.le_of_ble_eq_true rfl) rfl rfl dX9_writes_77 (fun r H locs hp hW hS => ?_)
        subst hp
        subst hR
        exact W.iret (v := (f_X9_otherFields p0_0 (f_X9_logs (f_X9_writeTo p0_0 (f_X9_writeTo p0_0 (f_X9_copyMachine p0_2 (0 : Int32) (135 : Int32)) (0 : Int32) x1 x2) (36 : Int32) x1 x2) x1 (1 : Int32) x2) (0 : Int32) (135 : Int32))) hx hb hr (fun t ht hW9 => ⟨⟨(f_X9_otherFields p0_0 (f_X9_logs (f_X9_writeTo p0_0 (f_X9_writeTo p0_0 (f_X9_copyMachine p0_2 (0 : Int32) (135 : Int32)) (0 : Int32) x1 x2) (36 : Int32) x1 x2) x1 (1 : Int32) x2) (0 : Int32) (135 : Int32)), Ω_18, rfl, ⟨rfl, h_p0, hE⟩, by rw [oB, ht]; exact hW⟩, hS.F ht⟩) hS.2.2 dX9_writes_80
      · rw [if_pos c_9] at hR
        have i_9 := congrArg Int32.toInt c_9
        refine lv_bipush (v := (-3 : Int32)) hx hb dX9_writes_35 (by decide) ?_
        subst hR
        exact W.iret (v := (-3 : Int32)) hx hb hr (fun t ht hW9 => ⟨⟨(-3 : Int32), Ω, rfl, ⟨rfl, h_p0, hE⟩, by rw [oB, ht]; exact hW⟩, hS.F ht⟩) hS.2.2 dX9_writes_37
    · rw [if_pos c_7] at hR
      have i_7 := congrArg Int32.toInt c_7
      refine lv_iconst (v := (-1 : Int32)) hx hb dX9_writes_21 (by decide) ?_
      subst hR
      exact W.iret (v := (-1 : Int32)) hx hb hr (fun t ht hW9 => ⟨⟨(-1 : Int32), Ω, rfl, ⟨rfl, h_p0, hE⟩, by rw [oB, ht]; exact hW⟩, hS.F ht⟩) hS.2.2 dX9_writes_22
set_option maxHeartbeats 4000000 in
set_option maxRecDepth 100000 in
theorem c_X9_sets (l : Launch) (G : Gm) (A : Nat → Prop) (Ω : Om) (p0 : Nat) (p0_0 : Fn) (p0_1 : Fn) (p0_2 : Fn) (p0_3 : Fn) (p0_4 : Int32) (p0_5 : Fn) (p0_6 : Fn) (p0_7 : Fn) (p0_8 : Int32) (p0_9 : Int32) (p0_10 : Int32) (p0_11 : Int32) (p0_12 : Int32) (p0_13 : Int32) (x1 : Int32) (x2 : Int32) (hM_p0 : ToldInv p0_0) (hp : 0 ≤ p0_4.toInt ∧ p0_4.toInt ≤ 6) (h_p0 : inMod G Ω p0 p0_0 p0_1 p0_2 p0_3 p0_4 p0_5 p0_6 p0_7 p0_8 p0_9 p0_10 p0_11 p0_12 p0_13) : Met l yX9_sets (wz yX9_sets cX9_sets 4 (some .int)) ({ frames := 2, cells := 0, slots := 0, locals := 43 } : Room) (va_Pc [.ref p0, .int x1, .int x2] (oS G A Ω)) (va_Qi (fun (r : Int32) (Ω1 : Om) => r = (f_X9_sets p0_0 p0_2 p0_3 p0_4 x1 x2).1 ∧ inMod G Ω1 p0 p0_0 p0_1 ((f_X9_sets p0_0 p0_2 p0_3 p0_4 x1 x2).2.1) ((f_X9_sets p0_0 p0_2 p0_3 p0_4 x1 x2).2.2.1) ((f_X9_sets p0_0 p0_2 p0_3 p0_4 x1 x2).2.2.2) p0_5 p0_6 p0_7 p0_8 p0_9 p0_10 p0_11 p0_12 p0_13 ∧ (∀ q : Nat, (q < p0 ∨ p0 + 8 ≤ q) → Ω1 q = Ω q)) (oB G A) A) 0 0 A := by
  refine Met.ofW (cc := cX9_sets) (maxL := 4) (ret := (some .int)) (by decide) rfl ?_
  intro p e s m args below meth c s₁ B hml hv
  obtain ⟨rfl, hW, hK, hN, hZ⟩ := hv
  have hx := B.exec
  have hb := B.bytes
  have hr := B.returns
  have hts : ∀ w ∈ gt, w.before _ s = true := fun w hw => atoms_spec (ws := wz yX9_sets cX9_sets 4 (some .int)) B.pre w (List.mem_cons_of_mem _ hw)
  have hown : s.vm.findClass RX9 = some m.cls := findClass_of_methodNamed B.named
  have hlocks := B.notSynchronized
  have hA : ∀ q, A q → A q := fun _ h => h
  have hS : va_S A s.heap s.heap [] := va_S.rf
  have hS0 := hS
  have hl := lv_entry ([.ref p0, .int x1, .int x2]) (n := 4) (Nat.le_of_ble_eq_true rfl)
  rw [lg_entry_eq]
  generalize (lg_sl ([.ref p0, .int x1, .int x2]) ++ List.replicate (4 - (lg_sl ([.ref p0, .int x1, .int x2])).length) Slot.unset).toArray = ls at hl ⊢
  have hl : lv_has ls 4 [(0, .ref p0), (1, .int x1), (2, .int x2)] := hl
  have hE : ∀ q : Nat, (q < p0 ∨ p0 + 8 ≤ q) → Ω q = Ω q := by intros; rfl
  generalize hR : (f_X9_sets p0_0 p0_2 p0_3 p0_4 x1 x2) = R
  rw [f_X9_sets] at hR
  refine lv_aload_n hx hb dX9_sets_0 rfl (lv_at hl 0 rfl) ?_
  refine lv_iload_n hx hb dX9_sets_1 rfl (lv_at hl 1 rfl) ?_
  refine o_ViR (rest := []) (As := [.int x1]) (n := 1) hx hb hml hown hts hK hN hZ hW hS hA (c_X9_isField l G A Ω p0 p0_0 p0_1 p0_2 p0_3 p0_4 p0_5 p0_6 p0_7 p0_8 p0_9 p0_10 p0_11 p0_12 p0_13 x1 hM_p0 h_p0) (inMod_o h_p0) rfl (good_V ml_X9_115 im_X9_isField se_X9_isField ini_X9 co_X9_isField) (by decide +kernel) ⟨Nat.zero_le _, Nat.zero_le _⟩ hl.1 (Nat.le_of_ble_eq_true rfl) rfl rfl dX9_sets_2 (fun r H locs hp hW hS => ?_)
  obtain ⟨rfl, hz_1⟩ := hp
  have j_3 : (0 : Int32).toInt = 0 := by decide
  refine lv_if_eq (tgt := 21) hx hb dX9_sets_5 (by decide) (fun c_2 => ?_) (fun c_2 => ?_)
  · rw [if_pos c_2] at hR
    have i_2 := congrArg Int32.toInt c_2
    refine lv_iconst (v := (-1 : Int32)) hx hb dX9_sets_21 (by decide) ?_
    subst hR
    exact W.iret (v := (-1 : Int32)) hx hb hr (fun t ht hW9 => ⟨⟨(-1 : Int32), Ω, rfl, ⟨rfl, h_p0, hE⟩, by rw [oB, ht]; exact hW⟩, hS.F ht⟩) hS.2.2 dX9_sets_22
  · rw [if_neg c_2] at hR
    have i_2 := rne c_2
    have b_c_2 := rIF hM_p0 c_2
    refine lv_iload_n hx hb dX9_sets_8 rfl (lv_at hl 2 rfl) ?_
    refine lv_iconst (v := (0 : Int32)) hx hb dX9_sets_9 (by decide) ?_
    refine lv_aload_n hx hb dX9_sets_10 rfl (lv_at hl 0 rfl) ?_
    refine lv_iload_n hx hb dX9_sets_11 rfl (lv_at hl 1 rfl) ?_
    refine o_ViR (rest := [.int (0 : Int32), .int x2]) (As := [.int x1]) (n := 1) hx hb hml hown hts hK hN hZ hW hS hA (c_X9_most l G A Ω p0 p0_0 p0_1 p0_2 p0_3 p0_4 p0_5 p0_6 p0_7 p0_8 p0_9 p0_10 p0_11 p0_12 p0_13 x1 hM_p0 (by omega) h_p0) (inMod_o h_p0) rfl (good_V ml_X9_46 im_X9_most se_X9_most ini_X9 co_X9_most) (by decide +kernel) ⟨Nat.zero_le _, Nat.zero_le _⟩ hl.1 (Nat.le_of_ble_eq_true rfl) rfl rfl dX9_sets_12 (fun r H locs hp hW hS => ?_)
    subst hp
    refine o_SiR (rest := []) (As := [.int x2, .int (0 : Int32), .int (f_X9_most p0_0 x1)]) (n := 3) hx hb hml hown hts hK hN hZ hW hS hA (c_X9_in l G A Ω x2 (0 : Int32) (f_X9_most p0_0 x1)) ml_X9_39 st_X9_in ini_X9 co_X9_in (by decide +kernel) ⟨Nat.zero_le _, Nat.zero_le _⟩ hl.1 (Nat.le_of_ble_eq_true rfl) rfl rfl dX9_sets_15 (fun r H locs hp hW hS => ?_)
    obtain ⟨rfl, hz_5⟩ := hp
    refine lv_if_ne (tgt := 23) hx hb dX9_sets_18 (by decide) (fun c_6 => ?_) (fun c_6 => ?_)
    · rw [if_neg c_6] at hR
      have i_6 := rne c_6
      have b_c_6 := rIN c_6
      refine lv_aload_n hx hb dX9_sets_23 rfl (lv_at hl 0 rfl) ?_
      refine o_get hx hb hts hown hK hW (inMod_o h_p0) rfl ig9 2 (by decide) fl_X9_16 rfl dX9_sets_24 ?_
      refine lv_iconst (v := (0 : Int32)) hx hb dX9_sets_27 (by decide) ?_
      refine lv_iload_n hx hb dX9_sets_28 rfl (lv_at hl 1 rfl) ?_
      refine lv_iadd hx hb dX9_sets_29 ?_
      try have j_7 : ((0 : Int32) + x1).toInt = (0 : Int32).toInt + x1.toInt := fb_addI (by omega) (by omega)
      refine o_iald hx hb hK hW (inMod_a2 h_p0) (vp_in_iff.mpr ⟨by omega, by omega⟩) dX9_sets_30 ?_
      refine lv_istore_n (lv' := [(3, .int (p0_2 ((0 : Int32) + x1).toNatClampNeg)), (0, .ref p0), (1, .int x1), (2, .int x2)]) hx hb dX9_sets_31 rfl hl (by decide) rfl (fun ls hl => ?_)
      refine lv_iload_n hx hb dX9_sets_32 rfl (lv_at hl 0 rfl) ?_
      refine lv_iload_n hx hb dX9_sets_33 rfl (lv_at hl 3 rfl) ?_
      refine lv_icmp_ne (tgt := 40) hx hb dX9_sets_34 (by decide) (fun c_8 => ?_) (fun c_8 => ?_)
      · rw [if_neg c_8] at hR
        have i_8 := rne c_8
        refine lv_aload_n hx hb dX9_sets_40 rfl (lv_at hl 1 rfl) ?_
        refine o_Vv (rest := []) (As := []) (n := 0) hx hb hml hown hts hK hN hZ hW hS hA (c_X9_note l G A Ω p0 p0_0 p0_1 p0_2 p0_3 p0_4 p0_5 p0_6 p0_7 p0_8 p0_9 p0_10 p0_11 p0_12 p0_13 (by omega) h_p0) (inMod_o h_p0) rfl (good_V ml_X9_97 im_X9_note se_X9_note ini_X9 co_X9_note) (by decide +kernel) ⟨Nat.zero_le _, Nat.zero_le _⟩ hl.1 (Nat.le_of_ble_eq_true rfl) rfl rfl dX9_sets_41 (fun Ω_9 H locs hp hW hS => ?_)
        obtain ⟨h_p0, hF_9⟩ := hp
        have hE : ∀ q : Nat, (q < p0 ∨ p0 + 8 ≤ q) → Ω_9 q = Ω q := fun q g0 => (hF_9 q (by omega)).trans (hE q g0)
        generalize (f_X9_note p0_2 p0_3 p0_4) = Z_9 at h_p0 hR
        obtain ⟨z9_0, z9_1⟩ := Z_9
        dsimp only at h_p0 hR
        rw [f_X9_sets_C44] at hR
        refine lv_aload_n hx hb dX9_sets_44 rfl (lv_at hl 1 rfl) ?_
        refine o_get hx hb hts hown hK hW (inMod_o h_p0) rfl ig9 2 (by decide) fl_X9_16 rfl dX9_sets_45 ?_
        refine lv_iconst (v := (0 : Int32)) hx hb dX9_sets_48 (by decide) ?_
        refine lv_iload_n hx hb dX9_sets_49 rfl (lv_at hl 2 rfl) ?_
        refine lv_iadd hx hb dX9_sets_50 ?_
        refine lv_iload_n hx hb dX9_sets_51 rfl (lv_at hl 3 rfl) ?_
        refine wMod_2 hx hb hK hW hS hA h_p0 (vp_in_iff.mpr ⟨by omega, by omega⟩) dX9_sets_52 (fun Ω_10 H locs h_p0 hF_10 hW hS => ?_)
        have hE : ∀ q : Nat, (q < p0 ∨ p0 + 8 ≤ q) → Ω_10 q = Ω q := fun q g0 => (hF_10 q (by omega)).trans (hE q g0)
        refine lv_iload_n hx hb dX9_sets_53 rfl (lv_at hl 0 rfl) ?_
        subst hR
        exact W.iret (v := (p0_2 ((0 : Int32) + x1).toNatClampNeg)) hx hb hr (fun t ht hW9 => ⟨⟨(p0_2 ((0 : Int32) + x1).toNatClampNeg), Ω_10, rfl, ⟨rfl, h_p0, hE⟩, by rw [oB, ht]; exact hW⟩, hS.F ht⟩) hS.2.2 dX9_sets_54
      · rw [if_pos c_8] at hR
        have i_8 := congrArg Int32.toInt c_8
        refine lv_bipush (v := (-2 : Int32)) hx hb dX9_sets_37 (by decide) ?_
        subst hR
        exact W.iret (v := (-2 : Int32)) hx hb hr (fun t ht hW9 => ⟨⟨(-2 : Int32), Ω, rfl, ⟨rfl, h_p0, hE⟩, by rw [oB, ht]; exact hW⟩, hS.F ht⟩) hS.2.2 dX9_sets_39
    · rw [if_pos c_6] at hR
      have i_6 := congrArg Int32.toInt c_6
      refine lv_iconst (v := (-1 : Int32)) hx hb dX9_sets_21 (by decide) ?_
      subst hR
      exact W.iret (v := (-1 : Int32)) hx hb hr (fun t ht hW9 => ⟨⟨(-1 : Int32), Ω, rfl, ⟨rfl, h_p0, hE⟩, by rw [oB, ht]; exact hW⟩, hS.F ht⟩) hS.2.2 dX9_sets_22
set_option maxHeartbeats 4000000 in
set_option maxRecDepth 100000 in
theorem c_X9_breaks (l : Launch) (G : Gm) (A : Nat → Prop) (Ω : Om) (p0 : Nat) (p0_0 : Fn) (p0_1 : Fn) (p0_2 : Fn) (p0_3 : Fn) (p0_4 : Int32) (p0_5 : Fn) (p0_6 : Fn) (p0_7 : Fn) (p0_8 : Int32) (p0_9 : Int32) (p0_10 : Int32) (p0_11 : Int32) (p0_12 : Int32) (p0_13 : Int32) (x1 : Int32) (x2 : Int32) (hM_p0 : ToldInv p0_0) (hp : 0 ≤ p0_4.toInt ∧ p0_4.toInt ≤ 6) (h_p0 : inMod G Ω p0 p0_0 p0_1 p0_2 p0_3 p0_4 p0_5 p0_6 p0_7 p0_8 p0_9 p0_10 p0_11 p0_12 p0_13) : Met l yX9_breaks (wz yX9_breaks cX9_breaks 4 (some .int)) ({ frames := 2, cells := 0, slots := 0, locals := 43 } : Room) (va_Pc [.ref p0, .int x1, .int x2] (oS G A Ω)) (va_Qi (fun (r : Int32) (Ω1 : Om) => r = (f_X9_breaks p0_0 p0_2 p0_3 p0_4 x1 x2).1 ∧ inMod G Ω1 p0 p0_0 p0_1 ((f_X9_breaks p0_0 p0_2 p0_3 p0_4 x1 x2).2.1) ((f_X9_breaks p0_0 p0_2 p0_3 p0_4 x1 x2).2.2.1) ((f_X9_breaks p0_0 p0_2 p0_3 p0_4 x1 x2).2.2.2) p0_5 p0_6 p0_7 p0_8 p0_9 p0_10 p0_11 p0_12 p0_13 ∧ (∀ q : Nat, (q < p0 ∨ p0 + 8 ≤ q) → Ω1 q = Ω q)) (oB G A) A) 0 0 A := by
  refine Met.ofW (cc := cX9_breaks) (maxL := 4) (ret := (some .int)) (by decide) rfl ?_
  intro p e s m args below meth c s₁ B hml hv
  obtain ⟨rfl, hW, hK, hN, hZ⟩ := hv
  have hx := B.exec
  have hb := B.bytes
  have hr := B.returns
  have hts : ∀ w ∈ gt, w.before _ s = true := fun w hw => atoms_spec (ws := wz yX9_breaks cX9_breaks 4 (some .int)) B.pre w (List.mem_cons_of_mem _ hw)
  have hown : s.vm.findClass RX9 = some m.cls := findClass_of_methodNamed B.named
  have hlocks := B.notSynchronized
  have hA : ∀ q, A q → A q := fun _ h => h
  have hS : va_S A s.heap s.heap [] := va_S.rf
  have hS0 := hS
  have hl := lv_entry ([.ref p0, .int x1, .int x2]) (n := 4) (Nat.le_of_ble_eq_true rfl)
  rw [lg_entry_eq]
  generalize (lg_sl ([.ref p0, .int x1, .int x2]) ++ List.replicate (4 - (lg_sl ([.ref p0, .int x1, .int x2])).length) Slot.unset).toArray = ls at hl ⊢
  have hl : lv_has ls 4 [(0, .ref p0), (1, .int x1), (2, .int x2)] := hl
  have hE : ∀ q : Nat, (q < p0 ∨ p0 + 8 ≤ q) → Ω q = Ω q := by intros; rfl
  generalize hR : (f_X9_breaks p0_0 p0_2 p0_3 p0_4 x1 x2) = R
  rw [f_X9_breaks] at hR
  refine lv_aload_n hx hb dX9_breaks_0 rfl (lv_at hl 0 rfl) ?_
  refine lv_iload_n hx hb dX9_breaks_1 rfl (lv_at hl 1 rfl) ?_
  refine o_ViR (rest := []) (As := [.int x1]) (n := 1) hx hb hml hown hts hK hN hZ hW hS hA (c_X9_isField l G A Ω p0 p0_0 p0_1 p0_2 p0_3 p0_4 p0_5 p0_6 p0_7 p0_8 p0_9 p0_10 p0_11 p0_12 p0_13 x1 hM_p0 h_p0) (inMod_o h_p0) rfl (good_V ml_X9_115 im_X9_isField se_X9_isField ini_X9 co_X9_isField) (by decide +kernel) ⟨Nat.zero_le _, Nat.zero_le _⟩ hl.1 (Nat.le_of_ble_eq_true rfl) rfl rfl dX9_breaks_2 (fun r H locs hp hW hS => ?_)
  obtain ⟨rfl, hz_1⟩ := hp
  have j_3 : (0 : Int32).toInt = 0 := by decide
  refine lv_if_eq (tgt := 18) hx hb dX9_breaks_5 (by decide) (fun c_2 => ?_) (fun c_2 => ?_)
  · rw [if_pos c_2] at hR
    have i_2 := congrArg Int32.toInt c_2
    refine lv_iconst (v := (-1 : Int32)) hx hb dX9_breaks_18 (by decide) ?_
    subst hR
    exact W.iret (v := (-1 : Int32)) hx hb hr (fun t ht hW9 => ⟨⟨(-1 : Int32), Ω, rfl, ⟨rfl, h_p0, hE⟩, by rw [oB, ht]; exact hW⟩, hS.F ht⟩) hS.2.2 dX9_breaks_19
  · rw [if_neg c_2] at hR
    have i_2 := rne c_2
    have b_c_2 := rIF hM_p0 c_2
    refine lv_iload_n hx hb dX9_breaks_8 rfl (lv_at hl 2 rfl) ?_
    refine lv_iconst (v := (0 : Int32)) hx hb dX9_breaks_9 (by decide) ?_
    refine lv_bipush (v := (7 : Int32)) hx hb dX9_breaks_10 (by decide) ?_
    have j_4 : (7 : Int32).toInt = 7 := by decide
    refine o_SiR (rest := []) (As := [.int x2, .int (0 : Int32), .int (7 : Int32)]) (n := 3) hx hb hml hown hts hK hN hZ hW hS hA (c_X9_in l G A Ω x2 (0 : Int32) (7 : Int32)) ml_X9_39 st_X9_in ini_X9 co_X9_in (by decide +kernel) ⟨Nat.zero_le _, Nat.zero_le _⟩ hl.1 (Nat.le_of_ble_eq_true rfl) rfl rfl dX9_breaks_12 (fun r H locs hp hW hS => ?_)
    obtain ⟨rfl, hz_5⟩ := hp
    refine lv_if_ne (tgt := 20) hx hb dX9_breaks_15 (by decide) (fun c_6 => ?_) (fun c_6 => ?_)
    · rw [if_neg c_6] at hR
      have i_6 := rne c_6
      have b_c_6 := rIN c_6
      refine lv_aload_n hx hb dX9_breaks_20 rfl (lv_at hl 0 rfl) ?_
      refine o_get hx hb hts hown hK hW (inMod_o h_p0) rfl ig9 2 (by decide) fl_X9_16 rfl dX9_breaks_21 ?_
      refine lv_bipush (v := (12 : Int32)) hx hb dX9_breaks_24 (by decide) ?_
      refine lv_iload_n hx hb dX9_breaks_26 rfl (lv_at hl 1 rfl) ?_
      refine lv_iadd hx hb dX9_breaks_27 ?_
      have j_7 : (12 : Int32).toInt = 12 := by decide
      try have j_8 : ((12 : Int32) + x1).toInt = (12 : Int32).toInt + x1.toInt := fb_addI (by omega) (by omega)
      refine o_iald hx hb hK hW (inMod_a2 h_p0) (vp_in_iff.mpr ⟨by omega, by omega⟩) dX9_breaks_28 ?_
      refine lv_istore_n (lv' := [(3, .int (p0_2 ((12 : Int32) + x1).toNatClampNeg)), (0, .ref p0), (1, .int x1), (2, .int x2)]) hx hb dX9_breaks_29 rfl hl (by decide) rfl (fun ls hl => ?_)
      refine lv_iload_n hx hb dX9_breaks_30 rfl (lv_at hl 0 rfl) ?_
      refine lv_iload_n hx hb dX9_breaks_31 rfl (lv_at hl 3 rfl) ?_
      refine lv_icmp_ne (tgt := 38) hx hb dX9_breaks_32 (by decide) (fun c_9 => ?_) (fun c_9 => ?_)
      · rw [if_neg c_9] at hR
        have i_9 := rne c_9
        refine lv_aload_n hx hb dX9_breaks_38 rfl (lv_at hl 1 rfl) ?_
        refine o_Vv (rest := []) (As := []) (n := 0) hx hb hml hown hts hK hN hZ hW hS hA (c_X9_note l G A Ω p0 p0_0 p0_1 p0_2 p0_3 p0_4 p0_5 p0_6 p0_7 p0_8 p0_9 p0_10 p0_11 p0_12 p0_13 (by omega) h_p0) (inMod_o h_p0) rfl (good_V ml_X9_97 im_X9_note se_X9_note ini_X9 co_X9_note) (by decide +kernel) ⟨Nat.zero_le _, Nat.zero_le _⟩ hl.1 (Nat.le_of_ble_eq_true rfl) rfl rfl dX9_breaks_39 (fun Ω_10 H locs hp hW hS => ?_)
        obtain ⟨h_p0, hF_10⟩ := hp
        have hE : ∀ q : Nat, (q < p0 ∨ p0 + 8 ≤ q) → Ω_10 q = Ω q := fun q g0 => (hF_10 q (by omega)).trans (hE q g0)
        generalize (f_X9_note p0_2 p0_3 p0_4) = Z_10 at h_p0 hR
        obtain ⟨z10_0, z10_1⟩ := Z_10
        dsimp only at h_p0 hR
        rw [f_X9_breaks_C42] at hR
        refine lv_aload_n hx hb dX9_breaks_42 rfl (lv_at hl 1 rfl) ?_
        refine o_get hx hb hts hown hK hW (inMod_o h_p0) rfl ig9 2 (by decide) fl_X9_16 rfl dX9_breaks_43 ?_
        refine lv_bipush (v := (12 : Int32)) hx hb dX9_breaks_46 (by decide) ?_
        refine lv_iload_n hx hb dX9_breaks_48 rfl (lv_at hl 2 rfl) ?_
        refine lv_iadd hx hb dX9_breaks_49 ?_
        refine lv_iload_n hx hb dX9_breaks_50 rfl (lv_at hl 3 rfl) ?_
        refine wMod_2 hx hb hK hW hS hA h_p0 (vp_in_iff.mpr ⟨by omega, by omega⟩) dX9_breaks_51 (fun Ω_11 H locs h_p0 hF_11 hW hS => ?_)
        have hE : ∀ q : Nat, (q < p0 ∨ p0 + 8 ≤ q) → Ω_11 q = Ω q := fun q g0 => (hF_11 q (by omega)).trans (hE q g0)
        refine lv_iload_n hx hb dX9_breaks_52 rfl (lv_at hl 0 rfl) ?_
        subst hR
        exact W.iret (v := (p0_2 ((12 : Int32) + x1).toNatClampNeg)) hx hb hr (fun t ht hW9 => ⟨⟨(p0_2 ((12 : Int32) + x1).toNatClampNeg), Ω_11, rfl, ⟨rfl, h_p0, hE⟩, by rw [oB, ht]; exact hW⟩, hS.F ht⟩) hS.2.2 dX9_breaks_53
      · rw [if_pos c_9] at hR
        have i_9 := congrArg Int32.toInt c_9
        refine lv_bipush (v := (-2 : Int32)) hx hb dX9_breaks_35 (by decide) ?_
        subst hR
        exact W.iret (v := (-2 : Int32)) hx hb hr (fun t ht hW9 => ⟨⟨(-2 : Int32), Ω, rfl, ⟨rfl, h_p0, hE⟩, by rw [oB, ht]; exact hW⟩, hS.F ht⟩) hS.2.2 dX9_breaks_37
    · rw [if_pos c_6] at hR
      have i_6 := congrArg Int32.toInt c_6
      refine lv_iconst (v := (-1 : Int32)) hx hb dX9_breaks_18 (by decide) ?_
      subst hR
      exact W.iret (v := (-1 : Int32)) hx hb hr (fun t ht hW9 => ⟨⟨(-1 : Int32), Ω, rfl, ⟨rfl, h_p0, hE⟩, by rw [oB, ht]; exact hW⟩, hS.F ht⟩) hS.2.2 dX9_breaks_19
set_option maxHeartbeats 4000000 in
set_option maxRecDepth 100000 in
theorem c_X9_undo (l : Launch) (G : Gm) (A : Nat → Prop) (Ω : Om) (p0 : Nat) (p0_0 : Fn) (p0_1 : Fn) (p0_2 : Fn) (p0_3 : Fn) (p0_4 : Int32) (p0_5 : Fn) (p0_6 : Fn) (p0_7 : Fn) (p0_8 : Int32) (p0_9 : Int32) (p0_10 : Int32) (p0_11 : Int32) (p0_12 : Int32) (p0_13 : Int32) (hp : 0 ≤ p0_4.toInt ∧ p0_4.toInt ≤ 6) (h_p0 : inMod G Ω p0 p0_0 p0_1 p0_2 p0_3 p0_4 p0_5 p0_6 p0_7 p0_8 p0_9 p0_10 p0_11 p0_12 p0_13) : Met l yX9_undo (wz yX9_undo cX9_undo 2 (some .int)) ({ frames := 0, cells := 0, slots := 0, locals := 0 } : Room) (va_Pc [.ref p0] (oS G A Ω)) (va_Qi (fun (r : Int32) (Ω1 : Om) => r = (f_X9_undo p0_2 p0_3 p0_4).1 ∧ inMod G Ω1 p0 p0_0 p0_1 ((f_X9_undo p0_2 p0_3 p0_4).2.1) p0_3 ((f_X9_undo p0_2 p0_3 p0_4).2.2) p0_5 p0_6 p0_7 p0_8 p0_9 p0_10 p0_11 p0_12 p0_13 ∧ (∀ q : Nat, (q < p0 ∨ p0 + 8 ≤ q) → Ω1 q = Ω q)) (oB G A) A) 0 0 A := by
  refine Met.ofW (cc := cX9_undo) (maxL := 2) (ret := (some .int)) (by decide) rfl ?_
  intro p e s m args below meth c s₁ B hml hv
  obtain ⟨rfl, hW, hK, hN, hZ⟩ := hv
  have hx := B.exec
  have hb := B.bytes
  have hr := B.returns
  have hts : ∀ w ∈ gt, w.before _ s = true := fun w hw => atoms_spec (ws := wz yX9_undo cX9_undo 2 (some .int)) B.pre w (List.mem_cons_of_mem _ hw)
  have hown : s.vm.findClass RX9 = some m.cls := findClass_of_methodNamed B.named
  have hlocks := B.notSynchronized
  have hA : ∀ q, A q → A q := fun _ h => h
  have hS : va_S A s.heap s.heap [] := va_S.rf
  have hS0 := hS
  have hl := lv_entry ([.ref p0]) (n := 2) (Nat.le_of_ble_eq_true rfl)
  rw [lg_entry_eq]
  generalize (lg_sl ([.ref p0]) ++ List.replicate (2 - (lg_sl ([.ref p0])).length) Slot.unset).toArray = ls at hl ⊢
  have hl : lv_has ls 2 [(0, .ref p0)] := hl
  have hE : ∀ q : Nat, (q < p0 ∨ p0 + 8 ≤ q) → Ω q = Ω q := by intros; rfl
  generalize hR : (f_X9_undo p0_2 p0_3 p0_4) = R
  rw [f_X9_undo] at hR
  refine lv_aload_n hx hb dX9_undo_0 rfl (lv_at hl 0 rfl) ?_
  refine o_get hx hb hts hown hK hW (inMod_o h_p0) rfl ig9 4 (by decide) fl_X9_60 rfl dX9_undo_1 ?_
  have j_2 : (0 : Int32).toInt = 0 := by decide
  refine lv_if_ne (tgt := 10) hx hb dX9_undo_4 (by decide) (fun c_1 => ?_) (fun c_1 => ?_)
  · rw [if_neg c_1] at hR
    have i_1 := rne c_1
    refine lv_aload_n hx hb dX9_undo_10 rfl (lv_at hl 0 rfl) ?_
    refine lv_dup hx hb dX9_undo_11 rfl ?_
    refine o_get hx hb hts hown hK hW (inMod_o h_p0) rfl ig9 4 (by decide) fl_X9_60 rfl dX9_undo_12 ?_
    refine lv_iconst (v := (1 : Int32)) hx hb dX9_undo_15 (by decide) ?_
    refine lv_isub hx hb dX9_undo_16 ?_
    refine vMod_4 hx hb hts hown hK hW hS hA h_p0 fl_X9_60 dX9_undo_17 (fun Ω_3 H locs h_p0 hF_3 hW hS => ?_)
    have hE : ∀ q : Nat, (q < p0 ∨ p0 + 8 ≤ q) → Ω_3 q = Ω q := fun q g0 => (hF_3 q (by omega)).trans (hE q g0)
    refine lv_iconst (v := (0 : Int32)) hx hb dX9_undo_20 (by decide) ?_
    refine lv_istore_n (lv' := [(1, .int (0 : Int32)), (0, .ref p0)]) hx hb dX9_undo_21 rfl hl (by decide) rfl (fun ls hl => ?_)
    have L22 : ∀ (n_5 : Nat) (x1_4 : Int32) (p0_2_4 : Fn) (Ω_6 : Om) (H : Heap) (locs : List Loc), (0 ≤ x1_4.toInt ∧ x1_4.toInt ≤ 135 ∧ 135 - x1_4.toInt < n_5) → inMod G Ω_6 p0 p0_0 p0_1 p0_2_4 p0_3 (p0_4 - (1 : Int32)) p0_5 p0_6 p0_7 p0_8 p0_9 p0_10 p0_11 p0_12 p0_13 → (∀ q : Nat, (q < p0 ∨ p0 + 8 ≤ q) → Ω_6 q = Ω q) → oW G A Ω_6 H → va_S A s.heap H locs → ∀ ls : Array Slot, lv_has ls 2 [(0, .ref p0), (1, .int x1_4)] → (f_X9_undo_L22 p0_3 (p0_4 - (1 : Int32)) n_5 x1_4 p0_2_4) = R → W p l e (headSpec (wz yX9_undo cX9_undo 2 (some .int)) ({ frames := 0, cells := 0, slots := 0, locals := 0 } : Room)).room s m ([.ref p0] : List Value).toArray below meth c H locs 0 0 (MQ below (va_Qi (fun (r : Int32) (Ω1 : Om) => r = R.1 ∧ inMod G Ω1 p0 p0_0 p0_1 (R.2.1) p0_3 (R.2.2) p0_5 p0_6 p0_7 p0_8 p0_9 p0_10 p0_11 p0_12 p0_13 ∧ (∀ q : Nat, (q < p0 ∨ p0 + 8 ≤ q) → Ω1 q = Ω q)) (oB G A) A) ([.ref p0] : List Value).toArray s 0 0 A) (F0 m 22 ls []) := by
      intro n_5
      induction n_5 with
      | zero =>
        intro x1_4 p0_2_4 Ω_6 H locs v_22_0 h_p0 hE hW hS ls hl hR
        exfalso
        omega
      | succ n_5 ih22 =>
        intro x1_4 p0_2_4 Ω_6 H locs v_22_0 h_p0 hE hW hS ls hl hR
        rw [f_X9_undo_L22] at hR
        refine lv_iload_n hx hb dX9_undo_22 rfl (lv_at hl 1 rfl) ?_
        refine lv_sipush (v := (135 : Int32)) hx hb dX9_undo_23 (by decide) ?_
        have j_8 : (135 : Int32).toInt = 135 := by decide
        refine lv_icmp_ge (tgt := 56) hx hb dX9_undo_26 (by decide) (fun c_7 => ?_) (fun c_7 => ?_)
        · rw [if_pos c_7] at hR
          have i_7 := rle c_7
          refine lv_aload_n hx hb dX9_undo_56 rfl (lv_at hl 0 rfl) ?_
          refine o_get hx hb hts hown hK hW (inMod_o h_p0) rfl ig9 4 (by decide) fl_X9_60 rfl dX9_undo_57 ?_
          subst hR
          exact W.iret (v := (p0_4 - (1 : Int32))) hx hb hr (fun t ht hW9 => ⟨⟨(p0_4 - (1 : Int32)), Ω_6, rfl, ⟨rfl, h_p0, hE⟩, by rw [oB, ht]; exact hW⟩, hS.F ht⟩) hS.2.2 dX9_undo_60
        · rw [if_neg c_7] at hR
          have i_7 := rnle c_7
          refine lv_aload_n hx hb dX9_undo_29 rfl (lv_at hl 0 rfl) ?_
          refine o_get hx hb hts hown hK hW (inMod_o h_p0) rfl ig9 2 (by decide) fl_X9_16 rfl dX9_undo_30 ?_
          refine lv_iload_n hx hb dX9_undo_33 rfl (lv_at hl 1 rfl) ?_
          refine lv_aload_n hx hb dX9_undo_34 rfl (lv_at hl 0 rfl) ?_
          refine o_get hx hb hts hown hK hW (inMod_o h_p0) rfl ig9 3 (by decide) fl_X9_19 rfl dX9_undo_35 ?_
          refine lv_sipush (v := (135 : Int32)) hx hb dX9_undo_38 (by decide) ?_
          refine lv_aload_n hx hb dX9_undo_41 rfl (lv_at hl 0 rfl) ?_
          refine o_get hx hb hts hown hK hW (inMod_o h_p0) rfl ig9 4 (by decide) fl_X9_60 rfl dX9_undo_42 ?_
          refine lv_imul hx hb dX9_undo_45 ?_
          refine lv_iload_n hx hb dX9_undo_46 rfl (lv_at hl 1 rfl) ?_
          refine lv_iadd hx hb dX9_undo_47 ?_
          have j_9 : (1 : Int32).toInt = 1 := by decide
          try have j_10 : (p0_4 - (1 : Int32)).toInt = p0_4.toInt - (1 : Int32).toInt := fb_subI (by omega) (by omega)
          try have j_11 : ((135 : Int32) * (p0_4 - (1 : Int32))).toInt = 135 * (p0_4 - (1 : Int32)).toInt := rg_mul2 (by decide) (by omega) (by omega)
          try have j_12 : (((135 : Int32) * (p0_4 - (1 : Int32))) + x1_4).toInt = ((135 : Int32) * (p0_4 - (1 : Int32))).toInt + x1_4.toInt := fb_addI (by omega) (by omega)
          refine o_iald hx hb hK hW (inMod_a3 h_p0) (vp_in_iff.mpr ⟨by omega, by omega⟩) dX9_undo_48 ?_
          refine wMod_2 hx hb hK hW hS hA h_p0 (vp_in_iff.mpr ⟨by omega, by omega⟩) dX9_undo_49 (fun Ω_13 H locs h_p0 hF_13 hW hS => ?_)
          have hE : ∀ q : Nat, (q < p0 ∨ p0 + 8 ≤ q) → Ω_13 q = Ω q := fun q g0 => (hF_13 q (by omega)).trans (hE q g0)
          refine lv_iinc (v := (x1_4 + (1 : Int32))) (lv' := [(1, .int (x1_4 + (1 : Int32))), (0, .ref p0)]) hx hb dX9_undo_50 hl (k := 1) rfl rfl (by decide) rfl (fun ls hl => ?_)
          refine lv_goto (tgt := 22) hx hb dX9_undo_53 (by decide) ?_
          try have j_14 : (x1_4 + (1 : Int32)).toInt = x1_4.toInt + (1 : Int32).toInt := fb_addI (by omega) (by omega)
          exact ih22 (x1_4 + (1 : Int32)) (upd p0_2_4 x1_4.toNatClampNeg (p0_3 (((135 : Int32) * (p0_4 - (1 : Int32))) + x1_4).toNatClampNeg)) Ω_13 H locs (by omega) h_p0 hE hW hS ls (lv_sub hl [1, 0] rfl) hR
    exact L22 4000 (0 : Int32) p0_2 Ω_3 H locs (by omega) h_p0 hE hW hS ls (lv_sub hl [1, 0] rfl) hR
  · rw [if_pos c_1] at hR
    have i_1 := congrArg Int32.toInt c_1
    refine lv_bipush (v := (-2 : Int32)) hx hb dX9_undo_7 (by decide) ?_
    subst hR
    exact W.iret (v := (-2 : Int32)) hx hb hr (fun t ht hW9 => ⟨⟨(-2 : Int32), Ω, rfl, ⟨rfl, h_p0, hE⟩, by rw [oB, ht]; exact hW⟩, hS.F ht⟩) hS.2.2 dX9_undo_9
set_option maxHeartbeats 4000000 in
set_option maxRecDepth 100000 in
theorem c_X9_field (l : Launch) (G : Gm) (A : Nat → Prop) (Ω : Om) (p0 : Nat) (p0_0 : Fn) (p0_1 : Fn) (p0_2 : Fn) (p0_3 : Fn) (p0_4 : Int32) (p0_5 : Fn) (p0_6 : Fn) (p0_7 : Fn) (p0_8 : Int32) (p0_9 : Int32) (p0_10 : Int32) (p0_11 : Int32) (p0_12 : Int32) (p0_13 : Int32) (x1 : Int32) (x2 : Int32) (hM_p0 : ToldInv p0_0) (h_p0 : inMod G Ω p0 p0_0 p0_1 p0_2 p0_3 p0_4 p0_5 p0_6 p0_7 p0_8 p0_9 p0_10 p0_11 p0_12 p0_13) : Met l yX9_field (wz yX9_field cX9_field 3 (some .int)) ({ frames := 2, cells := 0, slots := 0, locals := 43 } : Room) (va_Pc [.ref p0, .int x1, .int x2] (oS G A Ω)) (va_Qi (fun (r : Int32) (Ω1 : Om) => r = (f_X9_field p0_0 p0_2 x1 x2) ∧ Ω1 = Ω) (oB G A) A) 0 0 A := by
  refine Met.ofW (cc := cX9_field) (maxL := 3) (ret := (some .int)) (by decide) rfl ?_
  intro p e s m args below meth c s₁ B hml hv
  obtain ⟨rfl, hW, hK, hN, hZ⟩ := hv
  have hx := B.exec
  have hb := B.bytes
  have hr := B.returns
  have hts : ∀ w ∈ gt, w.before _ s = true := fun w hw => atoms_spec (ws := wz yX9_field cX9_field 3 (some .int)) B.pre w (List.mem_cons_of_mem _ hw)
  have hown : s.vm.findClass RX9 = some m.cls := findClass_of_methodNamed B.named
  have hlocks := B.notSynchronized
  have hA : ∀ q, A q → A q := fun _ h => h
  have hS : va_S A s.heap s.heap [] := va_S.rf
  have hS0 := hS
  have hl := lv_entry ([.ref p0, .int x1, .int x2]) (n := 3) (Nat.le_of_ble_eq_true rfl)
  rw [lg_entry_eq]
  generalize (lg_sl ([.ref p0, .int x1, .int x2]) ++ List.replicate (3 - (lg_sl ([.ref p0, .int x1, .int x2])).length) Slot.unset).toArray = ls at hl ⊢
  have hl : lv_has ls 3 [(0, .ref p0), (1, .int x1), (2, .int x2)] := hl
  generalize hR : (f_X9_field p0_0 p0_2 x1 x2) = R
  rw [f_X9_field] at hR
  refine lv_aload_n hx hb dX9_field_0 rfl (lv_at hl 0 rfl) ?_
  refine lv_iload_n hx hb dX9_field_1 rfl (lv_at hl 1 rfl) ?_
  refine o_ViR (rest := []) (As := [.int x1]) (n := 1) hx hb hml hown hts hK hN hZ hW hS hA (c_X9_isField l G A Ω p0 p0_0 p0_1 p0_2 p0_3 p0_4 p0_5 p0_6 p0_7 p0_8 p0_9 p0_10 p0_11 p0_12 p0_13 x1 hM_p0 h_p0) (inMod_o h_p0) rfl (good_V ml_X9_115 im_X9_isField se_X9_isField ini_X9 co_X9_isField) (by decide +kernel) ⟨Nat.zero_le _, Nat.zero_le _⟩ hl.1 (Nat.le_of_ble_eq_true rfl) rfl rfl dX9_field_2 (fun r H locs hp hW hS => ?_)
  obtain ⟨rfl, hz_1⟩ := hp
  have j_3 : (0 : Int32).toInt = 0 := by decide
  refine lv_if_ne (tgt := 10) hx hb dX9_field_5 (by decide) (fun c_2 => ?_) (fun c_2 => ?_)
  · rw [if_neg c_2] at hR
    have i_2 := rne c_2
    have b_c_2 := rIF hM_p0 c_2
    refine lv_iload_n hx hb dX9_field_10 rfl (lv_at hl 2 rfl) ?_
    by_cases c_4 : x2 = (0 : Int32)
    · rw [if_pos c_4] at hR
      refine lv_tableIn (tgt := 56) hx hb dX9_field_11 (by rw [c_4]; decide) (by rw [c_4]; decide) (by rw [c_4]; rfl) (by decide) ?_
      have i_4 := congrArg Int32.toInt c_4
      refine lv_aload_n hx hb dX9_field_56 rfl (lv_at hl 0 rfl) ?_
      refine o_get hx hb hts hown hK hW (inMod_o h_p0) rfl ig9 0 (by decide) fl_X9_7 rfl dX9_field_57 ?_
      refine lv_bipush (v := (18 : Int32)) hx hb dX9_field_60 (by decide) ?_
      refine lv_iload_n hx hb dX9_field_62 rfl (lv_at hl 1 rfl) ?_
      refine lv_iadd hx hb dX9_field_63 ?_
      have j_5 : (18 : Int32).toInt = 18 := by decide
      try have j_6 : ((18 : Int32) + x1).toInt = (18 : Int32).toInt + x1.toInt := fb_addI (by omega) (by omega)
      refine o_iald hx hb hK hW (inMod_a0 h_p0) (vp_in_iff.mpr ⟨by omega, by omega⟩) dX9_field_64 ?_
      subst hR
      exact W.iret (v := (p0_0 ((18 : Int32) + x1).toNatClampNeg)) hx hb hr (fun t ht hW9 => ⟨⟨(p0_0 ((18 : Int32) + x1).toNatClampNeg), Ω, rfl, ⟨rfl, rfl⟩, by rw [oB, ht]; exact hW⟩, hS.F ht⟩) hS.2.2 dX9_field_65
    rw [if_neg c_4] at hR
    by_cases c_7 : x2 = (1 : Int32)
    · rw [if_pos c_7] at hR
      refine lv_tableIn (tgt := 66) hx hb dX9_field_11 (by rw [c_7]; decide) (by rw [c_7]; decide) (by rw [c_7]; rfl) (by decide) ?_
      have i_7 := congrArg Int32.toInt c_7
      refine lv_aload_n hx hb dX9_field_66 rfl (lv_at hl 0 rfl) ?_
      refine o_get hx hb hts hown hK hW (inMod_o h_p0) rfl ig9 0 (by decide) fl_X9_7 rfl dX9_field_67 ?_
      refine lv_bipush (v := (30 : Int32)) hx hb dX9_field_70 (by decide) ?_
      refine lv_iload_n hx hb dX9_field_72 rfl (lv_at hl 1 rfl) ?_
      refine lv_iadd hx hb dX9_field_73 ?_
      have j_8 : (30 : Int32).toInt = 30 := by decide
      try have j_9 : ((30 : Int32) + x1).toInt = (30 : Int32).toInt + x1.toInt := fb_addI (by omega) (by omega)
      refine o_iald hx hb hK hW (inMod_a0 h_p0) (vp_in_iff.mpr ⟨by omega, by omega⟩) dX9_field_74 ?_
      subst hR
      exact W.iret (v := (p0_0 ((30 : Int32) + x1).toNatClampNeg)) hx hb hr (fun t ht hW9 => ⟨⟨(p0_0 ((30 : Int32) + x1).toNatClampNeg), Ω, rfl, ⟨rfl, rfl⟩, by rw [oB, ht]; exact hW⟩, hS.F ht⟩) hS.2.2 dX9_field_75
    rw [if_neg c_7] at hR
    by_cases c_10 : x2 = (2 : Int32)
    · rw [if_pos c_10] at hR
      refine lv_tableIn (tgt := 76) hx hb dX9_field_11 (by rw [c_10]; decide) (by rw [c_10]; decide) (by rw [c_10]; rfl) (by decide) ?_
      have i_10 := congrArg Int32.toInt c_10
      refine lv_aload_n hx hb dX9_field_76 rfl (lv_at hl 0 rfl) ?_
      refine o_get hx hb hts hown hK hW (inMod_o h_p0) rfl ig9 0 (by decide) fl_X9_7 rfl dX9_field_77 ?_
      refine lv_bipush (v := (42 : Int32)) hx hb dX9_field_80 (by decide) ?_
      refine lv_iload_n hx hb dX9_field_82 rfl (lv_at hl 1 rfl) ?_
      refine lv_iadd hx hb dX9_field_83 ?_
      have j_11 : (42 : Int32).toInt = 42 := by decide
      try have j_12 : ((42 : Int32) + x1).toInt = (42 : Int32).toInt + x1.toInt := fb_addI (by omega) (by omega)
      refine o_iald hx hb hK hW (inMod_a0 h_p0) (vp_in_iff.mpr ⟨by omega, by omega⟩) dX9_field_84 ?_
      subst hR
      exact W.iret (v := (p0_0 ((42 : Int32) + x1).toNatClampNeg)) hx hb hr (fun t ht hW9 => ⟨⟨(p0_0 ((42 : Int32) + x1).toNatClampNeg), Ω, rfl, ⟨rfl, rfl⟩, by rw [oB, ht]; exact hW⟩, hS.F ht⟩) hS.2.2 dX9_field_85
    rw [if_neg c_10] at hR
    by_cases c_13 : x2 = (3 : Int32)
    · rw [if_pos c_13] at hR
      refine lv_tableIn (tgt := 86) hx hb dX9_field_11 (by rw [c_13]; decide) (by rw [c_13]; decide) (by rw [c_13]; rfl) (by decide) ?_
      have i_13 := congrArg Int32.toInt c_13
      refine lv_aload_n hx hb dX9_field_86 rfl (lv_at hl 0 rfl) ?_
      refine o_get hx hb hts hown hK hW (inMod_o h_p0) rfl ig9 0 (by decide) fl_X9_7 rfl dX9_field_87 ?_
      refine lv_bipush (v := (54 : Int32)) hx hb dX9_field_90 (by decide) ?_
      refine lv_iload_n hx hb dX9_field_92 rfl (lv_at hl 1 rfl) ?_
      refine lv_iadd hx hb dX9_field_93 ?_
      have j_14 : (54 : Int32).toInt = 54 := by decide
      try have j_15 : ((54 : Int32) + x1).toInt = (54 : Int32).toInt + x1.toInt := fb_addI (by omega) (by omega)
      refine o_iald hx hb hK hW (inMod_a0 h_p0) (vp_in_iff.mpr ⟨by omega, by omega⟩) dX9_field_94 ?_
      subst hR
      exact W.iret (v := (p0_0 ((54 : Int32) + x1).toNatClampNeg)) hx hb hr (fun t ht hW9 => ⟨⟨(p0_0 ((54 : Int32) + x1).toNatClampNeg), Ω, rfl, ⟨rfl, rfl⟩, by rw [oB, ht]; exact hW⟩, hS.F ht⟩) hS.2.2 dX9_field_95
    rw [if_neg c_13] at hR
    by_cases c_16 : x2 = (4 : Int32)
    · rw [if_pos c_16] at hR
      refine lv_tableIn (tgt := 96) hx hb dX9_field_11 (by rw [c_16]; decide) (by rw [c_16]; decide) (by rw [c_16]; rfl) (by decide) ?_
      have i_16 := congrArg Int32.toInt c_16
      refine lv_aload_n hx hb dX9_field_96 rfl (lv_at hl 0 rfl) ?_
      refine o_get hx hb hts hown hK hW (inMod_o h_p0) rfl ig9 0 (by decide) fl_X9_7 rfl dX9_field_97 ?_
      refine lv_bipush (v := (66 : Int32)) hx hb dX9_field_100 (by decide) ?_
      refine lv_iload_n hx hb dX9_field_102 rfl (lv_at hl 1 rfl) ?_
      refine lv_iadd hx hb dX9_field_103 ?_
      have j_17 : (66 : Int32).toInt = 66 := by decide
      try have j_18 : ((66 : Int32) + x1).toInt = (66 : Int32).toInt + x1.toInt := fb_addI (by omega) (by omega)
      refine o_iald hx hb hK hW (inMod_a0 h_p0) (vp_in_iff.mpr ⟨by omega, by omega⟩) dX9_field_104 ?_
      subst hR
      exact W.iret (v := (p0_0 ((66 : Int32) + x1).toNatClampNeg)) hx hb hr (fun t ht hW9 => ⟨⟨(p0_0 ((66 : Int32) + x1).toNatClampNeg), Ω, rfl, ⟨rfl, rfl⟩, by rw [oB, ht]; exact hW⟩, hS.F ht⟩) hS.2.2 dX9_field_105
    rw [if_neg c_16] at hR
    by_cases c_19 : x2 = (5 : Int32)
    · rw [if_pos c_19] at hR
      refine lv_tableIn (tgt := 106) hx hb dX9_field_11 (by rw [c_19]; decide) (by rw [c_19]; decide) (by rw [c_19]; rfl) (by decide) ?_
      have i_19 := congrArg Int32.toInt c_19
      refine lv_aload_n hx hb dX9_field_106 rfl (lv_at hl 0 rfl) ?_
      refine o_get hx hb hts hown hK hW (inMod_o h_p0) rfl ig9 2 (by decide) fl_X9_16 rfl dX9_field_107 ?_
      refine lv_iconst (v := (0 : Int32)) hx hb dX9_field_110 (by decide) ?_
      refine lv_iload_n hx hb dX9_field_111 rfl (lv_at hl 1 rfl) ?_
      refine lv_iadd hx hb dX9_field_112 ?_
      try have j_20 : ((0 : Int32) + x1).toInt = (0 : Int32).toInt + x1.toInt := fb_addI (by omega) (by omega)
      refine o_iald hx hb hK hW (inMod_a2 h_p0) (vp_in_iff.mpr ⟨by omega, by omega⟩) dX9_field_113 ?_
      subst hR
      exact W.iret (v := (p0_2 ((0 : Int32) + x1).toNatClampNeg)) hx hb hr (fun t ht hW9 => ⟨⟨(p0_2 ((0 : Int32) + x1).toNatClampNeg), Ω, rfl, ⟨rfl, rfl⟩, by rw [oB, ht]; exact hW⟩, hS.F ht⟩) hS.2.2 dX9_field_114
    rw [if_neg c_19] at hR
    by_cases c_21 : x2 = (6 : Int32)
    · rw [if_pos c_21] at hR
      refine lv_tableIn (tgt := 115) hx hb dX9_field_11 (by rw [c_21]; decide) (by rw [c_21]; decide) (by rw [c_21]; rfl) (by decide) ?_
      have i_21 := congrArg Int32.toInt c_21
      refine lv_aload_n hx hb dX9_field_115 rfl (lv_at hl 0 rfl) ?_
      refine o_get hx hb hts hown hK hW (inMod_o h_p0) rfl ig9 2 (by decide) fl_X9_16 rfl dX9_field_116 ?_
      refine lv_bipush (v := (36 : Int32)) hx hb dX9_field_119 (by decide) ?_
      refine lv_iload_n hx hb dX9_field_121 rfl (lv_at hl 1 rfl) ?_
      refine lv_iadd hx hb dX9_field_122 ?_
      have j_22 : (36 : Int32).toInt = 36 := by decide
      try have j_23 : ((36 : Int32) + x1).toInt = (36 : Int32).toInt + x1.toInt := fb_addI (by omega) (by omega)
      refine o_iald hx hb hK hW (inMod_a2 h_p0) (vp_in_iff.mpr ⟨by omega, by omega⟩) dX9_field_123 ?_
      subst hR
      exact W.iret (v := (p0_2 ((36 : Int32) + x1).toNatClampNeg)) hx hb hr (fun t ht hW9 => ⟨⟨(p0_2 ((36 : Int32) + x1).toNatClampNeg), Ω, rfl, ⟨rfl, rfl⟩, by rw [oB, ht]; exact hW⟩, hS.F ht⟩) hS.2.2 dX9_field_124
    rw [if_neg c_21] at hR
    by_cases c_24 : x2 = (7 : Int32)
    · rw [if_pos c_24] at hR
      refine lv_tableIn (tgt := 125) hx hb dX9_field_11 (by rw [c_24]; decide) (by rw [c_24]; decide) (by rw [c_24]; rfl) (by decide) ?_
      have i_24 := congrArg Int32.toInt c_24
      refine lv_aload_n hx hb dX9_field_125 rfl (lv_at hl 0 rfl) ?_
      refine o_get hx hb hts hown hK hW (inMod_o h_p0) rfl ig9 2 (by decide) fl_X9_16 rfl dX9_field_126 ?_
      refine lv_bipush (v := (12 : Int32)) hx hb dX9_field_129 (by decide) ?_
      refine lv_iload_n hx hb dX9_field_131 rfl (lv_at hl 1 rfl) ?_
      refine lv_iadd hx hb dX9_field_132 ?_
      have j_25 : (12 : Int32).toInt = 12 := by decide
      try have j_26 : ((12 : Int32) + x1).toInt = (12 : Int32).toInt + x1.toInt := fb_addI (by omega) (by omega)
      refine o_iald hx hb hK hW (inMod_a2 h_p0) (vp_in_iff.mpr ⟨by omega, by omega⟩) dX9_field_133 ?_
      subst hR
      exact W.iret (v := (p0_2 ((12 : Int32) + x1).toNatClampNeg)) hx hb hr (fun t ht hW9 => ⟨⟨(p0_2 ((12 : Int32) + x1).toNatClampNeg), Ω, rfl, ⟨rfl, rfl⟩, by rw [oB, ht]; exact hW⟩, hS.F ht⟩) hS.2.2 dX9_field_134
    rw [if_neg c_24] at hR
    have i_4 := lv_neT c_4 (a := 0) rfl
    have i_7 := lv_neT c_7 (a := 1) rfl
    have i_10 := lv_neT c_10 (a := 2) rfl
    have i_13 := lv_neT c_13 (a := 3) rfl
    have i_16 := lv_neT c_16 (a := 4) rfl
    have i_19 := lv_neT c_19 (a := 5) rfl
    have i_21 := lv_neT c_21 (a := 6) rfl
    have i_24 := lv_neT c_24 (a := 7) rfl
    refine lv_tableOut (tgt := 135) hx hb dX9_field_11 (by omega) (by decide) ?_
    refine lv_iconst (v := (-1 : Int32)) hx hb dX9_field_135 (by decide) ?_
    subst hR
    exact W.iret (v := (-1 : Int32)) hx hb hr (fun t ht hW9 => ⟨⟨(-1 : Int32), Ω, rfl, ⟨rfl, rfl⟩, by rw [oB, ht]; exact hW⟩, hS.F ht⟩) hS.2.2 dX9_field_136
  · rw [if_pos c_2] at hR
    have i_2 := congrArg Int32.toInt c_2
    refine lv_iconst (v := (-1 : Int32)) hx hb dX9_field_8 (by decide) ?_
    subst hR
    exact W.iret (v := (-1 : Int32)) hx hb hr (fun t ht hW9 => ⟨⟨(-1 : Int32), Ω, rfl, ⟨rfl, rfl⟩, by rw [oB, ht]; exact hW⟩, hS.F ht⟩) hS.2.2 dX9_field_9
set_option maxHeartbeats 4000000 in
set_option maxRecDepth 100000 in
theorem c_X9_register (l : Launch) (G : Gm) (A : Nat → Prop) (Ω : Om) (p0 : Nat) (p0_0 : Fn) (p0_1 : Fn) (p0_2 : Fn) (p0_3 : Fn) (p0_4 : Int32) (p0_5 : Fn) (p0_6 : Fn) (p0_7 : Fn) (p0_8 : Int32) (p0_9 : Int32) (p0_10 : Int32) (p0_11 : Int32) (p0_12 : Int32) (p0_13 : Int32) (x1 : Int32) (x2 : Int32) (hM_p0 : ToldInv p0_0) (h_p0 : inMod G Ω p0 p0_0 p0_1 p0_2 p0_3 p0_4 p0_5 p0_6 p0_7 p0_8 p0_9 p0_10 p0_11 p0_12 p0_13) : Met l yX9_register (wz yX9_register cX9_register 3 (some .int)) ({ frames := 2, cells := 0, slots := 0, locals := 43 } : Room) (va_Pc [.ref p0, .int x1, .int x2] (oS G A Ω)) (va_Qi (fun (r : Int32) (Ω1 : Om) => r = (f_X9_register p0_0 p0_2 x1 x2) ∧ Ω1 = Ω) (oB G A) A) 0 0 A := by
  refine Met.ofW (cc := cX9_register) (maxL := 3) (ret := (some .int)) (by decide) rfl ?_
  intro p e s m args below meth c s₁ B hml hv
  obtain ⟨rfl, hW, hK, hN, hZ⟩ := hv
  have hx := B.exec
  have hb := B.bytes
  have hr := B.returns
  have hts : ∀ w ∈ gt, w.before _ s = true := fun w hw => atoms_spec (ws := wz yX9_register cX9_register 3 (some .int)) B.pre w (List.mem_cons_of_mem _ hw)
  have hown : s.vm.findClass RX9 = some m.cls := findClass_of_methodNamed B.named
  have hlocks := B.notSynchronized
  have hA : ∀ q, A q → A q := fun _ h => h
  have hS : va_S A s.heap s.heap [] := va_S.rf
  have hS0 := hS
  have hl := lv_entry ([.ref p0, .int x1, .int x2]) (n := 3) (Nat.le_of_ble_eq_true rfl)
  rw [lg_entry_eq]
  generalize (lg_sl ([.ref p0, .int x1, .int x2]) ++ List.replicate (3 - (lg_sl ([.ref p0, .int x1, .int x2])).length) Slot.unset).toArray = ls at hl ⊢
  have hl : lv_has ls 3 [(0, .ref p0), (1, .int x1), (2, .int x2)] := hl
  generalize hR : (f_X9_register p0_0 p0_2 x1 x2) = R
  rw [f_X9_register] at hR
  refine lv_aload_n hx hb dX9_register_0 rfl (lv_at hl 0 rfl) ?_
  refine lv_iload_n hx hb dX9_register_1 rfl (lv_at hl 1 rfl) ?_
  refine o_ViR (rest := []) (As := [.int x1]) (n := 1) hx hb hml hown hts hK hN hZ hW hS hA (c_X9_isRegister l G A Ω p0 p0_0 p0_1 p0_2 p0_3 p0_4 p0_5 p0_6 p0_7 p0_8 p0_9 p0_10 p0_11 p0_12 p0_13 x1 hM_p0 h_p0) (inMod_o h_p0) rfl (good_V ml_X9_119 im_X9_isRegister se_X9_isRegister ini_X9 co_X9_isRegister) (by decide +kernel) ⟨Nat.zero_le _, Nat.zero_le _⟩ hl.1 (Nat.le_of_ble_eq_true rfl) rfl rfl dX9_register_2 (fun r H locs hp hW hS => ?_)
  obtain ⟨rfl, hz_1⟩ := hp
  have j_3 : (0 : Int32).toInt = 0 := by decide
  refine lv_if_ne (tgt := 10) hx hb dX9_register_5 (by decide) (fun c_2 => ?_) (fun c_2 => ?_)
  · rw [if_neg c_2] at hR
    have i_2 := rne c_2
    have b_c_2 := rIRg hM_p0 c_2
    refine lv_iload_n hx hb dX9_register_10 rfl (lv_at hl 2 rfl) ?_
    by_cases c_4 : x2 = (0 : Int32)
    · rw [if_pos c_4] at hR
      refine lv_tableIn (tgt := 44) hx hb dX9_register_11 (by rw [c_4]; decide) (by rw [c_4]; decide) (by rw [c_4]; rfl) (by decide) ?_
      have i_4 := congrArg Int32.toInt c_4
      refine lv_aload_n hx hb dX9_register_44 rfl (lv_at hl 0 rfl) ?_
      refine o_get hx hb hts hown hK hW (inMod_o h_p0) rfl ig9 0 (by decide) fl_X9_7 rfl dX9_register_45 ?_
      refine lv_iconst (v := (0 : Int32)) hx hb dX9_register_48 (by decide) ?_
      refine lv_iload_n hx hb dX9_register_49 rfl (lv_at hl 1 rfl) ?_
      refine lv_iadd hx hb dX9_register_50 ?_
      try have j_5 : ((0 : Int32) + x1).toInt = (0 : Int32).toInt + x1.toInt := fb_addI (by omega) (by omega)
      refine o_iald hx hb hK hW (inMod_a0 h_p0) (vp_in_iff.mpr ⟨by omega, by omega⟩) dX9_register_51 ?_
      subst hR
      exact W.iret (v := (p0_0 ((0 : Int32) + x1).toNatClampNeg)) hx hb hr (fun t ht hW9 => ⟨⟨(p0_0 ((0 : Int32) + x1).toNatClampNeg), Ω, rfl, ⟨rfl, rfl⟩, by rw [oB, ht]; exact hW⟩, hS.F ht⟩) hS.2.2 dX9_register_52
    rw [if_neg c_4] at hR
    by_cases c_6 : x2 = (1 : Int32)
    · rw [if_pos c_6] at hR
      refine lv_tableIn (tgt := 53) hx hb dX9_register_11 (by rw [c_6]; decide) (by rw [c_6]; decide) (by rw [c_6]; rfl) (by decide) ?_
      have i_6 := congrArg Int32.toInt c_6
      refine lv_aload_n hx hb dX9_register_53 rfl (lv_at hl 0 rfl) ?_
      refine o_get hx hb hts hown hK hW (inMod_o h_p0) rfl ig9 0 (by decide) fl_X9_7 rfl dX9_register_54 ?_
      refine lv_bipush (v := (6 : Int32)) hx hb dX9_register_57 (by decide) ?_
      refine lv_iload_n hx hb dX9_register_59 rfl (lv_at hl 1 rfl) ?_
      refine lv_iadd hx hb dX9_register_60 ?_
      have j_7 : (6 : Int32).toInt = 6 := by decide
      try have j_8 : ((6 : Int32) + x1).toInt = (6 : Int32).toInt + x1.toInt := fb_addI (by omega) (by omega)
      refine o_iald hx hb hK hW (inMod_a0 h_p0) (vp_in_iff.mpr ⟨by omega, by omega⟩) dX9_register_61 ?_
      subst hR
      exact W.iret (v := (p0_0 ((6 : Int32) + x1).toNatClampNeg)) hx hb hr (fun t ht hW9 => ⟨⟨(p0_0 ((6 : Int32) + x1).toNatClampNeg), Ω, rfl, ⟨rfl, rfl⟩, by rw [oB, ht]; exact hW⟩, hS.F ht⟩) hS.2.2 dX9_register_62
    rw [if_neg c_6] at hR
    by_cases c_9 : x2 = (2 : Int32)
    · rw [if_pos c_9] at hR
      refine lv_tableIn (tgt := 63) hx hb dX9_register_11 (by rw [c_9]; decide) (by rw [c_9]; decide) (by rw [c_9]; rfl) (by decide) ?_
      have i_9 := congrArg Int32.toInt c_9
      refine lv_aload_n hx hb dX9_register_63 rfl (lv_at hl 0 rfl) ?_
      refine o_get hx hb hts hown hK hW (inMod_o h_p0) rfl ig9 0 (by decide) fl_X9_7 rfl dX9_register_64 ?_
      refine lv_bipush (v := (12 : Int32)) hx hb dX9_register_67 (by decide) ?_
      refine lv_iload_n hx hb dX9_register_69 rfl (lv_at hl 1 rfl) ?_
      refine lv_iadd hx hb dX9_register_70 ?_
      have j_10 : (12 : Int32).toInt = 12 := by decide
      try have j_11 : ((12 : Int32) + x1).toInt = (12 : Int32).toInt + x1.toInt := fb_addI (by omega) (by omega)
      refine o_iald hx hb hK hW (inMod_a0 h_p0) (vp_in_iff.mpr ⟨by omega, by omega⟩) dX9_register_71 ?_
      subst hR
      exact W.iret (v := (p0_0 ((12 : Int32) + x1).toNatClampNeg)) hx hb hr (fun t ht hW9 => ⟨⟨(p0_0 ((12 : Int32) + x1).toNatClampNeg), Ω, rfl, ⟨rfl, rfl⟩, by rw [oB, ht]; exact hW⟩, hS.F ht⟩) hS.2.2 dX9_register_72
    rw [if_neg c_9] at hR
    by_cases c_12 : x2 = (3 : Int32)
    · rw [if_pos c_12] at hR
      refine lv_tableIn (tgt := 73) hx hb dX9_register_11 (by rw [c_12]; decide) (by rw [c_12]; decide) (by rw [c_12]; rfl) (by decide) ?_
      have i_12 := congrArg Int32.toInt c_12
      refine lv_aload_n hx hb dX9_register_73 rfl (lv_at hl 0 rfl) ?_
      refine lv_iconst (v := (0 : Int32)) hx hb dX9_register_74 (by decide) ?_
      refine lv_iload_n hx hb dX9_register_75 rfl (lv_at hl 1 rfl) ?_
      refine o_ViR (rest := []) (As := [.int (0 : Int32), .int x1]) (n := 2) hx hb hml hown hts hK hN hZ hW hS hA (c_X9_isLocked l G A Ω p0 p0_0 p0_1 p0_2 p0_3 p0_4 p0_5 p0_6 p0_7 p0_8 p0_9 p0_10 p0_11 p0_12 p0_13 (0 : Int32) x1 hM_p0 (by omega) (by omega) h_p0) (inMod_o h_p0) rfl (good_V ml_X9_85 im_X9_isLocked se_X9_isLocked ini_X9 co_X9_isLocked) (by decide +kernel) ⟨Nat.zero_le _, Nat.zero_le _⟩ hl.1 (Nat.le_of_ble_eq_true rfl) rfl rfl dX9_register_76 (fun r H locs hp hW hS => ?_)
      obtain ⟨rfl, hz_13⟩ := hp
      refine lv_if_eq (tgt := 86) hx hb dX9_register_79 (by decide) (fun c_14 => ?_) (fun c_14 => ?_)
      · rw [if_pos c_14] at hR
        have i_14 := congrArg Int32.toInt c_14
        refine lv_iconst (v := (0 : Int32)) hx hb dX9_register_86 (by decide) ?_
        subst hR
        exact W.iret (v := (0 : Int32)) hx hb hr (fun t ht hW9 => ⟨⟨(0 : Int32), Ω, rfl, ⟨rfl, rfl⟩, by rw [oB, ht]; exact hW⟩, hS.F ht⟩) hS.2.2 dX9_register_87
      · rw [if_neg c_14] at hR
        have i_14 := rne c_14
        refine lv_iconst (v := (1 : Int32)) hx hb dX9_register_82 (by decide) ?_
        refine lv_goto (tgt := 87) hx hb dX9_register_83 (by decide) ?_
        subst hR
        exact W.iret (v := (1 : Int32)) hx hb hr (fun t ht hW9 => ⟨⟨(1 : Int32), Ω, rfl, ⟨rfl, rfl⟩, by rw [oB, ht]; exact hW⟩, hS.F ht⟩) hS.2.2 dX9_register_87
    rw [if_neg c_12] at hR
    by_cases c_15 : x2 = (4 : Int32)
    · rw [if_pos c_15] at hR
      refine lv_tableIn (tgt := 88) hx hb dX9_register_11 (by rw [c_15]; decide) (by rw [c_15]; decide) (by rw [c_15]; rfl) (by decide) ?_
      have i_15 := congrArg Int32.toInt c_15
      refine lv_aload_n hx hb dX9_register_88 rfl (lv_at hl 0 rfl) ?_
      refine o_get hx hb hts hown hK hW (inMod_o h_p0) rfl ig9 2 (by decide) fl_X9_16 rfl dX9_register_89 ?_
      refine lv_bipush (v := (24 : Int32)) hx hb dX9_register_92 (by decide) ?_
      refine lv_iload_n hx hb dX9_register_94 rfl (lv_at hl 1 rfl) ?_
      refine lv_iadd hx hb dX9_register_95 ?_
      have j_16 : (24 : Int32).toInt = 24 := by decide
      try have j_17 : ((24 : Int32) + x1).toInt = (24 : Int32).toInt + x1.toInt := fb_addI (by omega) (by omega)
      refine o_iald hx hb hK hW (inMod_a2 h_p0) (vp_in_iff.mpr ⟨by omega, by omega⟩) dX9_register_96 ?_
      subst hR
      exact W.iret (v := (p0_2 ((24 : Int32) + x1).toNatClampNeg)) hx hb hr (fun t ht hW9 => ⟨⟨(p0_2 ((24 : Int32) + x1).toNatClampNeg), Ω, rfl, ⟨rfl, rfl⟩, by rw [oB, ht]; exact hW⟩, hS.F ht⟩) hS.2.2 dX9_register_97
    rw [if_neg c_15] at hR
    have i_4 := lv_neT c_4 (a := 0) rfl
    have i_6 := lv_neT c_6 (a := 1) rfl
    have i_9 := lv_neT c_9 (a := 2) rfl
    have i_12 := lv_neT c_12 (a := 3) rfl
    have i_15 := lv_neT c_15 (a := 4) rfl
    refine lv_tableOut (tgt := 98) hx hb dX9_register_11 (by omega) (by decide) ?_
    refine lv_iconst (v := (-1 : Int32)) hx hb dX9_register_98 (by decide) ?_
    subst hR
    exact W.iret (v := (-1 : Int32)) hx hb hr (fun t ht hW9 => ⟨⟨(-1 : Int32), Ω, rfl, ⟨rfl, rfl⟩, by rw [oB, ht]; exact hW⟩, hS.F ht⟩) hS.2.2 dX9_register_99
  · rw [if_pos c_2] at hR
    have i_2 := congrArg Int32.toInt c_2
    refine lv_iconst (v := (-1 : Int32)) hx hb dX9_register_8 (by decide) ?_
    subst hR
    exact W.iret (v := (-1 : Int32)) hx hb hr (fun t ht hW9 => ⟨⟨(-1 : Int32), Ω, rfl, ⟨rfl, rfl⟩, by rw [oB, ht]; exact hW⟩, hS.F ht⟩) hS.2.2 dX9_register_9
set_option maxHeartbeats 4000000 in
set_option maxRecDepth 100000 in
theorem c_X9_alias (l : Launch) (G : Gm) (A : Nat → Prop) (Ω : Om) (p0 : Nat) (p0_0 : Fn) (p0_1 : Fn) (p0_2 : Fn) (p0_3 : Fn) (p0_4 : Int32) (p0_5 : Fn) (p0_6 : Fn) (p0_7 : Fn) (p0_8 : Int32) (p0_9 : Int32) (p0_10 : Int32) (p0_11 : Int32) (p0_12 : Int32) (p0_13 : Int32) (x1 : Int32) (x2 : Int32) (hM_p0 : ToldInv p0_0) (h_p0 : inMod G Ω p0 p0_0 p0_1 p0_2 p0_3 p0_4 p0_5 p0_6 p0_7 p0_8 p0_9 p0_10 p0_11 p0_12 p0_13) : Met l yX9_alias (wz yX9_alias cX9_alias 3 (some .int)) ({ frames := 1, cells := 0, slots := 0, locals := 22 } : Room) (va_Pc [.ref p0, .int x1, .int x2] (oS G A Ω)) (va_Qi (fun (r : Int32) (Ω1 : Om) => r = (f_X9_alias p0_0 x1 x2) ∧ Ω1 = Ω) (oB G A) A) 0 0 A := by
  refine Met.ofW (cc := cX9_alias) (maxL := 3) (ret := (some .int)) (by decide) rfl ?_
  intro p e s m args below meth c s₁ B hml hv
  obtain ⟨rfl, hW, hK, hN, hZ⟩ := hv
  have hx := B.exec
  have hb := B.bytes
  have hr := B.returns
  have hts : ∀ w ∈ gt, w.before _ s = true := fun w hw => atoms_spec (ws := wz yX9_alias cX9_alias 3 (some .int)) B.pre w (List.mem_cons_of_mem _ hw)
  have hown : s.vm.findClass RX9 = some m.cls := findClass_of_methodNamed B.named
  have hlocks := B.notSynchronized
  have hA : ∀ q, A q → A q := fun _ h => h
  have hS : va_S A s.heap s.heap [] := va_S.rf
  have hS0 := hS
  have hl := lv_entry ([.ref p0, .int x1, .int x2]) (n := 3) (Nat.le_of_ble_eq_true rfl)
  rw [lg_entry_eq]
  generalize (lg_sl ([.ref p0, .int x1, .int x2]) ++ List.replicate (3 - (lg_sl ([.ref p0, .int x1, .int x2])).length) Slot.unset).toArray = ls at hl ⊢
  have hl : lv_has ls 3 [(0, .ref p0), (1, .int x1), (2, .int x2)] := hl
  generalize hR : (f_X9_alias p0_0 x1 x2) = R
  rw [f_X9_alias] at hR
  refine lv_iload_n hx hb dX9_alias_0 rfl (lv_at hl 1 rfl) ?_
  refine lv_iconst (v := (0 : Int32)) hx hb dX9_alias_1 (by decide) ?_
  refine lv_aload_n hx hb dX9_alias_2 rfl (lv_at hl 0 rfl) ?_
  refine o_get hx hb hts hown hK hW (inMod_o h_p0) rfl ig9 0 (by decide) fl_X9_7 rfl dX9_alias_3 ?_
  refine lv_bipush (v := (92 : Int32)) hx hb dX9_alias_6 (by decide) ?_
  have j_1 : (92 : Int32).toInt = 92 := by decide
  refine o_iald hx hb hK hW (inMod_a0 h_p0) (vp_in_iff.mpr ⟨by omega, by omega⟩) dX9_alias_8 ?_
  refine lv_iconst (v := (1 : Int32)) hx hb dX9_alias_9 (by decide) ?_
  refine lv_isub hx hb dX9_alias_10 ?_
  have j_2 : (0 : Int32).toInt = 0 := by decide
  try have j_3 : 0 ≤ (p0_0 (92 : Int32).toNatClampNeg).toInt ∧ (p0_0 (92 : Int32).toNatClampNeg).toInt ≤ 4 := TI_92 hM_p0
  have j_4 : (1 : Int32).toInt = 1 := by decide
  try have j_5 : ((p0_0 (92 : Int32).toNatClampNeg) - (1 : Int32)).toInt = (p0_0 (92 : Int32).toNatClampNeg).toInt - (1 : Int32).toInt := fb_subI (by omega) (by omega)
  refine o_SiR (rest := []) (As := [.int x1, .int (0 : Int32), .int ((p0_0 (92 : Int32).toNatClampNeg) - (1 : Int32))]) (n := 3) hx hb hml hown hts hK hN hZ hW hS hA (c_X9_in l G A Ω x1 (0 : Int32) ((p0_0 (92 : Int32).toNatClampNeg) - (1 : Int32))) ml_X9_39 st_X9_in ini_X9 co_X9_in (by decide +kernel) ⟨Nat.zero_le _, Nat.zero_le _⟩ hl.1 (Nat.le_of_ble_eq_true rfl) rfl rfl dX9_alias_11 (fun r H locs hp hW hS => ?_)
  obtain ⟨rfl, hz_6⟩ := hp
  refine lv_if_eq (tgt := 42) hx hb dX9_alias_14 (by decide) (fun c_7 => ?_) (fun c_7 => ?_)
  · rw [if_pos c_7] at hR
    have i_7 := congrArg Int32.toInt c_7
    refine lv_iconst (v := (-1 : Int32)) hx hb dX9_alias_42 (by decide) ?_
    subst hR
    exact W.iret (v := (-1 : Int32)) hx hb hr (fun t ht hW9 => ⟨⟨(-1 : Int32), Ω, rfl, ⟨rfl, rfl⟩, by rw [oB, ht]; exact hW⟩, hS.F ht⟩) hS.2.2 dX9_alias_43
  · rw [if_neg c_7] at hR
    have i_7 := rne c_7
    have b_c_7 := rIN c_7
    refine lv_iload_n hx hb dX9_alias_17 rfl (lv_at hl 2 rfl) ?_
    refine lv_iconst (v := (0 : Int32)) hx hb dX9_alias_18 (by decide) ?_
    refine lv_iconst (v := (2 : Int32)) hx hb dX9_alias_19 (by decide) ?_
    have j_8 : (2 : Int32).toInt = 2 := by decide
    refine o_SiR (rest := []) (As := [.int x2, .int (0 : Int32), .int (2 : Int32)]) (n := 3) hx hb hml hown hts hK hN hZ hW hS hA (c_X9_in l G A Ω x2 (0 : Int32) (2 : Int32)) ml_X9_39 st_X9_in ini_X9 co_X9_in (by decide +kernel) ⟨Nat.zero_le _, Nat.zero_le _⟩ hl.1 (Nat.le_of_ble_eq_true rfl) rfl rfl dX9_alias_20 (fun r H locs hp hW hS => ?_)
    obtain ⟨rfl, hz_9⟩ := hp
    refine lv_if_eq (tgt := 42) hx hb dX9_alias_23 (by decide) (fun c_10 => ?_) (fun c_10 => ?_)
    · rw [if_pos c_10] at hR
      have i_10 := congrArg Int32.toInt c_10
      refine lv_iconst (v := (-1 : Int32)) hx hb dX9_alias_42 (by decide) ?_
      subst hR
      exact W.iret (v := (-1 : Int32)) hx hb hr (fun t ht hW9 => ⟨⟨(-1 : Int32), Ω, rfl, ⟨rfl, rfl⟩, by rw [oB, ht]; exact hW⟩, hS.F ht⟩) hS.2.2 dX9_alias_43
    · rw [if_neg c_10] at hR
      have i_10 := rne c_10
      have b_c_10 := rIN c_10
      refine lv_aload_n hx hb dX9_alias_26 rfl (lv_at hl 0 rfl) ?_
      refine o_get hx hb hts hown hK hW (inMod_o h_p0) rfl ig9 0 (by decide) fl_X9_7 rfl dX9_alias_27 ?_
      refine lv_bipush (v := (78 : Int32)) hx hb dX9_alias_30 (by decide) ?_
      refine lv_iconst (v := (4 : Int32)) hx hb dX9_alias_32 (by decide) ?_
      refine lv_iload_n hx hb dX9_alias_33 rfl (lv_at hl 2 rfl) ?_
      refine lv_imul hx hb dX9_alias_34 ?_
      refine lv_iadd hx hb dX9_alias_35 ?_
      refine lv_iload_n hx hb dX9_alias_36 rfl (lv_at hl 1 rfl) ?_
      refine lv_iadd hx hb dX9_alias_37 ?_
      have j_11 : (78 : Int32).toInt = 78 := by decide
      have j_12 : (4 : Int32).toInt = 4 := by decide
      try have j_13 : ((4 : Int32) * x2).toInt = 4 * x2.toInt := rg_mul2 (by decide) (by omega) (by omega)
      try have j_14 : ((78 : Int32) + ((4 : Int32) * x2)).toInt = (78 : Int32).toInt + ((4 : Int32) * x2).toInt := fb_addI (by omega) (by omega)
      try have j_15 : (((78 : Int32) + ((4 : Int32) * x2)) + x1).toInt = ((78 : Int32) + ((4 : Int32) * x2)).toInt + x1.toInt := fb_addI (by omega) (by omega)
      refine o_iald hx hb hK hW (inMod_a0 h_p0) (vp_in_iff.mpr ⟨by omega, by omega⟩) dX9_alias_38 ?_
      refine lv_goto (tgt := 43) hx hb dX9_alias_39 (by decide) ?_
      subst hR
      exact W.iret (v := (p0_0 (((78 : Int32) + ((4 : Int32) * x2)) + x1).toNatClampNeg)) hx hb hr (fun t ht hW9 => ⟨⟨(p0_0 (((78 : Int32) + ((4 : Int32) * x2)) + x1).toNatClampNeg), Ω, rfl, ⟨rfl, rfl⟩, by rw [oB, ht]; exact hW⟩, hS.F ht⟩) hS.2.2 dX9_alias_43
set_option maxHeartbeats 4000000 in
set_option maxRecDepth 100000 in
theorem c_X9_at (l : Launch) (G : Gm) (A : Nat → Prop) (Ω : Om) (p0 : Nat) (p0_0 : Fn) (p0_1 : Fn) (p0_2 : Fn) (p0_3 : Fn) (p0_4 : Int32) (p0_5 : Fn) (p0_6 : Fn) (p0_7 : Fn) (p0_8 : Int32) (p0_9 : Int32) (p0_10 : Int32) (p0_11 : Int32) (p0_12 : Int32) (p0_13 : Int32) (x1 : Int32) (hM_p0 : ToldInv p0_0) (h_p0 : inMod G Ω p0 p0_0 p0_1 p0_2 p0_3 p0_4 p0_5 p0_6 p0_7 p0_8 p0_9 p0_10 p0_11 p0_12 p0_13) : Met l yX9_at (wz yX9_at cX9_at 2 (some .int)) ({ frames := 2, cells := 0, slots := 0, locals := 42 } : Room) (va_Pc [.ref p0, .int x1] (oS G A Ω)) (va_Qi (fun (r : Int32) (Ω1 : Om) => r = (f_X9_at p0_0 x1) ∧ Ω1 = Ω) (oB G A) A) 0 0 A := by
  refine Met.ofW (cc := cX9_at) (maxL := 2) (ret := (some .int)) (by decide) rfl ?_
  intro p e s m args below meth c s₁ B hml hv
  obtain ⟨rfl, hW, hK, hN, hZ⟩ := hv
  have hx := B.exec
  have hb := B.bytes
  have hr := B.returns
  have hts : ∀ w ∈ gt, w.before _ s = true := fun w hw => atoms_spec (ws := wz yX9_at cX9_at 2 (some .int)) B.pre w (List.mem_cons_of_mem _ hw)
  have hown : s.vm.findClass RX9 = some m.cls := findClass_of_methodNamed B.named
  have hlocks := B.notSynchronized
  have hA : ∀ q, A q → A q := fun _ h => h
  have hS : va_S A s.heap s.heap [] := va_S.rf
  have hS0 := hS
  have hl := lv_entry ([.ref p0, .int x1]) (n := 2) (Nat.le_of_ble_eq_true rfl)
  rw [lg_entry_eq]
  generalize (lg_sl ([.ref p0, .int x1]) ++ List.replicate (2 - (lg_sl ([.ref p0, .int x1])).length) Slot.unset).toArray = ls at hl ⊢
  have hl : lv_has ls 2 [(0, .ref p0), (1, .int x1)] := hl
  generalize hR : (f_X9_at p0_0 x1) = R
  rw [f_X9_at] at hR
  refine lv_iload_n hx hb dX9_at_0 rfl (lv_at hl 1 rfl) ?_
  refine lv_iconst (v := (0 : Int32)) hx hb dX9_at_1 (by decide) ?_
  refine lv_bipush (v := (15 : Int32)) hx hb dX9_at_2 (by decide) ?_
  have j_1 : (0 : Int32).toInt = 0 := by decide
  have j_2 : (15 : Int32).toInt = 15 := by decide
  refine o_SiR (rest := []) (As := [.int x1, .int (0 : Int32), .int (15 : Int32)]) (n := 3) hx hb hml hown hts hK hN hZ hW hS hA (c_X9_in l G A Ω x1 (0 : Int32) (15 : Int32)) ml_X9_39 st_X9_in ini_X9 co_X9_in (by decide +kernel) ⟨Nat.zero_le _, Nat.zero_le _⟩ hl.1 (Nat.le_of_ble_eq_true rfl) rfl rfl dX9_at_4 (fun r H locs hp hW hS => ?_)
  obtain ⟨rfl, hz_3⟩ := hp
  refine lv_if_eq (tgt := 18) hx hb dX9_at_7 (by decide) (fun c_4 => ?_) (fun c_4 => ?_)
  · rw [if_pos c_4] at hR
    have i_4 := congrArg Int32.toInt c_4
    refine lv_iconst (v := (-1 : Int32)) hx hb dX9_at_18 (by decide) ?_
    subst hR
    exact W.iret (v := (-1 : Int32)) hx hb hr (fun t ht hW9 => ⟨⟨(-1 : Int32), Ω, rfl, ⟨rfl, rfl⟩, by rw [oB, ht]; exact hW⟩, hS.F ht⟩) hS.2.2 dX9_at_19
  · rw [if_neg c_4] at hR
    have i_4 := rne c_4
    have b_c_4 := rIN c_4
    refine lv_aload_n hx hb dX9_at_10 rfl (lv_at hl 0 rfl) ?_
    refine lv_iload_n hx hb dX9_at_11 rfl (lv_at hl 1 rfl) ?_
    refine o_ViR (rest := []) (As := [.int x1]) (n := 1) hx hb hml hown hts hK hN hZ hW hS hA (c_X9_goesTo l G A Ω p0 p0_0 p0_1 p0_2 p0_3 p0_4 p0_5 p0_6 p0_7 p0_8 p0_9 p0_10 p0_11 p0_12 p0_13 x1 hM_p0 h_p0) (inMod_o h_p0) rfl (good_V ml_X9_64 im_X9_goesTo se_X9_goesTo ini_X9 co_X9_goesTo) (by decide +kernel) ⟨Nat.zero_le _, Nat.zero_le _⟩ hl.1 (Nat.le_of_ble_eq_true rfl) rfl rfl dX9_at_12 (fun r H locs hp hW hS => ?_)
    subst hp
    refine lv_goto (tgt := 19) hx hb dX9_at_15 (by decide) ?_
    subst hR
    exact W.iret (v := (f_X9_goesTo p0_0 x1)) hx hb hr (fun t ht hW9 => ⟨⟨(f_X9_goesTo p0_0 x1), Ω, rfl, ⟨rfl, rfl⟩, by rw [oB, ht]; exact hW⟩, hS.F ht⟩) hS.2.2 dX9_at_19
set_option maxHeartbeats 4000000 in
set_option maxRecDepth 100000 in
theorem c_X9_peek (l : Launch) (G : Gm) (A : Nat → Prop) (Ω : Om) (p0 : Nat) (p0_0 : Fn) (p0_1 : Fn) (p0_2 : Fn) (p0_3 : Fn) (p0_4 : Int32) (p0_5 : Fn) (p0_6 : Fn) (p0_7 : Fn) (p0_8 : Int32) (p0_9 : Int32) (p0_10 : Int32) (p0_11 : Int32) (p0_12 : Int32) (p0_13 : Int32) (x1 : Int32) (x2 : Int32) (hM_p0 : ToldInv p0_0) (h_p0 : inMod G Ω p0 p0_0 p0_1 p0_2 p0_3 p0_4 p0_5 p0_6 p0_7 p0_8 p0_9 p0_10 p0_11 p0_12 p0_13) : Met l yX9_peek (wz yX9_peek cX9_peek 3 (some .int)) ({ frames := 3, cells := 0, slots := 0, locals := 67 } : Room) (va_Pc [.ref p0, .int x1, .int x2] (oS G A Ω)) (va_Qi (fun (r : Int32) (Ω1 : Om) => r = (f_X9_peek p0_0 p0_2 x1 x2) ∧ Ω1 = Ω) (oB G A) A) 0 0 A := by
  refine Met.ofW (cc := cX9_peek) (maxL := 3) (ret := (some .int)) (by decide) rfl ?_
  intro p e s m args below meth c s₁ B hml hv
  obtain ⟨rfl, hW, hK, hN, hZ⟩ := hv
  have hx := B.exec
  have hb := B.bytes
  have hr := B.returns
  have hts : ∀ w ∈ gt, w.before _ s = true := fun w hw => atoms_spec (ws := wz yX9_peek cX9_peek 3 (some .int)) B.pre w (List.mem_cons_of_mem _ hw)
  have hown : s.vm.findClass RX9 = some m.cls := findClass_of_methodNamed B.named
  have hlocks := B.notSynchronized
  have hA : ∀ q, A q → A q := fun _ h => h
  have hS : va_S A s.heap s.heap [] := va_S.rf
  have hS0 := hS
  have hl := lv_entry ([.ref p0, .int x1, .int x2]) (n := 3) (Nat.le_of_ble_eq_true rfl)
  rw [lg_entry_eq]
  generalize (lg_sl ([.ref p0, .int x1, .int x2]) ++ List.replicate (3 - (lg_sl ([.ref p0, .int x1, .int x2])).length) Slot.unset).toArray = ls at hl ⊢
  have hl : lv_has ls 3 [(0, .ref p0), (1, .int x1), (2, .int x2)] := hl
  generalize hR : (f_X9_peek p0_0 p0_2 x1 x2) = R
  rw [f_X9_peek] at hR
  refine lv_iload_n hx hb dX9_peek_0 rfl (lv_at hl 1 rfl) ?_
  refine lv_iconst (v := (0 : Int32)) hx hb dX9_peek_1 (by decide) ?_
  refine lv_bipush (v := (15 : Int32)) hx hb dX9_peek_2 (by decide) ?_
  have j_1 : (0 : Int32).toInt = 0 := by decide
  have j_2 : (15 : Int32).toInt = 15 := by decide
  refine o_SiR (rest := []) (As := [.int x1, .int (0 : Int32), .int (15 : Int32)]) (n := 3) hx hb hml hown hts hK hN hZ hW hS hA (c_X9_in l G A Ω x1 (0 : Int32) (15 : Int32)) ml_X9_39 st_X9_in ini_X9 co_X9_in (by decide +kernel) ⟨Nat.zero_le _, Nat.zero_le _⟩ hl.1 (Nat.le_of_ble_eq_true rfl) rfl rfl dX9_peek_4 (fun r H locs hp hW hS => ?_)
  obtain ⟨rfl, hz_3⟩ := hp
  refine lv_if_eq (tgt := 37) hx hb dX9_peek_7 (by decide) (fun c_4 => ?_) (fun c_4 => ?_)
  · rw [if_pos c_4] at hR
    have i_4 := congrArg Int32.toInt c_4
    refine lv_iconst (v := (-1 : Int32)) hx hb dX9_peek_37 (by decide) ?_
    subst hR
    exact W.iret (v := (-1 : Int32)) hx hb hr (fun t ht hW9 => ⟨⟨(-1 : Int32), Ω, rfl, ⟨rfl, rfl⟩, by rw [oB, ht]; exact hW⟩, hS.F ht⟩) hS.2.2 dX9_peek_38
  · rw [if_neg c_4] at hR
    have i_4 := rne c_4
    have b_c_4 := rIN c_4
    refine lv_iload_n hx hb dX9_peek_10 rfl (lv_at hl 2 rfl) ?_
    refine lv_iconst (v := (0 : Int32)) hx hb dX9_peek_11 (by decide) ?_
    refine lv_iconst (v := (1 : Int32)) hx hb dX9_peek_12 (by decide) ?_
    have j_5 : (1 : Int32).toInt = 1 := by decide
    refine o_SiR (rest := []) (As := [.int x2, .int (0 : Int32), .int (1 : Int32)]) (n := 3) hx hb hml hown hts hK hN hZ hW hS hA (c_X9_in l G A Ω x2 (0 : Int32) (1 : Int32)) ml_X9_39 st_X9_in ini_X9 co_X9_in (by decide +kernel) ⟨Nat.zero_le _, Nat.zero_le _⟩ hl.1 (Nat.le_of_ble_eq_true rfl) rfl rfl dX9_peek_13 (fun r H locs hp hW hS => ?_)
    obtain ⟨rfl, hz_6⟩ := hp
    refine lv_if_eq (tgt := 37) hx hb dX9_peek_16 (by decide) (fun c_7 => ?_) (fun c_7 => ?_)
    · rw [if_pos c_7] at hR
      have i_7 := congrArg Int32.toInt c_7
      refine lv_iconst (v := (-1 : Int32)) hx hb dX9_peek_37 (by decide) ?_
      subst hR
      exact W.iret (v := (-1 : Int32)) hx hb hr (fun t ht hW9 => ⟨⟨(-1 : Int32), Ω, rfl, ⟨rfl, rfl⟩, by rw [oB, ht]; exact hW⟩, hS.F ht⟩) hS.2.2 dX9_peek_38
    · rw [if_neg c_7] at hR
      have i_7 := rne c_7
      have b_c_7 := rIN c_7
      refine lv_aload_n hx hb dX9_peek_19 rfl (lv_at hl 0 rfl) ?_
      refine lv_iload_n hx hb dX9_peek_20 rfl (lv_at hl 2 rfl) ?_
      have J30 : ∀ (s1_8 : Int32) (H : Heap) (locs : List Loc), (0 ≤ s1_8.toInt ∧ s1_8.toInt ≤ 36) → oW G A Ω H → va_S A s.heap H locs → ∀ ls : Array Slot, lv_has ls 3 [(1, .int x1)] → (f_X9_peek_J30 p0_0 p0_2 x1 s1_8) = R → W p l e (headSpec (wz yX9_peek cX9_peek 3 (some .int)) ({ frames := 3, cells := 0, slots := 0, locals := 67 } : Room)).room s m ([.ref p0, .int x1, .int x2] : List Value).toArray below meth c H locs 0 0 (MQ below (va_Qi (fun (r : Int32) (Ω1 : Om) => r = R ∧ Ω1 = Ω) (oB G A) A) ([.ref p0, .int x1, .int x2] : List Value).toArray s 0 0 A) (F0 m 30 ls [.int s1_8, .ref p0]) := by
        intro s1_8 H locs v_30_0 hW hS ls hl hR
        rw [f_X9_peek_J30] at hR
        refine lv_iload_n hx hb dX9_peek_30 rfl (lv_at hl 0 rfl) ?_
        refine o_ViR (rest := []) (As := [.int s1_8, .int x1]) (n := 2) hx hb hml hown hts hK hN hZ hW hS hA (c_X9_peekAt l G A Ω p0 p0_0 p0_1 p0_2 p0_3 p0_4 p0_5 p0_6 p0_7 p0_8 p0_9 p0_10 p0_11 p0_12 p0_13 s1_8 x1 hM_p0 (by omega) h_p0) (inMod_o h_p0) rfl (good_V ml_X9_74 im_X9_peekAt se_X9_peekAt ini_X9 co_X9_peekAt) (by decide +kernel) ⟨Nat.zero_le _, Nat.zero_le _⟩ hl.1 (Nat.le_of_ble_eq_true rfl) rfl rfl dX9_peek_31 (fun r H locs hp hW hS => ?_)
        subst hp
        refine lv_goto (tgt := 38) hx hb dX9_peek_34 (by decide) ?_
        subst hR
        exact W.iret (v := (f_X9_peekAt p0_0 p0_2 s1_8 x1)) hx hb hr (fun t ht hW9 => ⟨⟨(f_X9_peekAt p0_0 p0_2 s1_8 x1), Ω, rfl, ⟨rfl, rfl⟩, by rw [oB, ht]; exact hW⟩, hS.F ht⟩) hS.2.2 dX9_peek_38
      refine lv_if_ne (tgt := 28) hx hb dX9_peek_21 (by decide) (fun c_10 => ?_) (fun c_10 => ?_)
      · rw [if_neg c_10] at hR
        have i_10 := rne c_10
        refine lv_bipush (v := (36 : Int32)) hx hb dX9_peek_28 (by decide) ?_
        have j_11 : (36 : Int32).toInt = 36 := by decide
        exact J30 (36 : Int32) H locs (by omega) hW hS ls (lv_sub hl [1] rfl) hR
      · rw [if_pos c_10] at hR
        have i_10 := congrArg Int32.toInt c_10
        refine lv_iconst (v := (0 : Int32)) hx hb dX9_peek_24 (by decide) ?_
        refine lv_goto (tgt := 30) hx hb dX9_peek_25 (by decide) ?_
        exact J30 (0 : Int32) H locs (by omega) hW hS ls (lv_sub hl [1] rfl) hR
set_option maxHeartbeats 4000000 in
set_option maxRecDepth 100000 in
theorem c_X9_differed (l : Launch) (G : Gm) (A : Nat → Prop) (Ω : Om) (p0 : Nat) (p0_0 : Fn) (p0_1 : Fn) (p0_2 : Fn) (p0_3 : Fn) (p0_4 : Int32) (p0_5 : Fn) (p0_6 : Fn) (p0_7 : Fn) (p0_8 : Int32) (p0_9 : Int32) (p0_10 : Int32) (p0_11 : Int32) (p0_12 : Int32) (p0_13 : Int32) (x1 : Int32) (h_p0 : inMod G Ω p0 p0_0 p0_1 p0_2 p0_3 p0_4 p0_5 p0_6 p0_7 p0_8 p0_9 p0_10 p0_11 p0_12 p0_13) : Met l yX9_differed (wz yX9_differed cX9_differed 2 (some .int)) ({ frames := 1, cells := 0, slots := 0, locals := 22 } : Room) (va_Pc [.ref p0, .int x1] (oS G A Ω)) (va_Qi (fun (r : Int32) (Ω1 : Om) => r = (f_X9_differed p0_2 x1) ∧ Ω1 = Ω) (oB G A) A) 0 0 A := by
  refine Met.ofW (cc := cX9_differed) (maxL := 2) (ret := (some .int)) (by decide) rfl ?_
  intro p e s m args below meth c s₁ B hml hv
  obtain ⟨rfl, hW, hK, hN, hZ⟩ := hv
  have hx := B.exec
  have hb := B.bytes
  have hr := B.returns
  have hts : ∀ w ∈ gt, w.before _ s = true := fun w hw => atoms_spec (ws := wz yX9_differed cX9_differed 2 (some .int)) B.pre w (List.mem_cons_of_mem _ hw)
  have hown : s.vm.findClass RX9 = some m.cls := findClass_of_methodNamed B.named
  have hlocks := B.notSynchronized
  have hA : ∀ q, A q → A q := fun _ h => h
  have hS : va_S A s.heap s.heap [] := va_S.rf
  have hS0 := hS
  have hl := lv_entry ([.ref p0, .int x1]) (n := 2) (Nat.le_of_ble_eq_true rfl)
  rw [lg_entry_eq]
  generalize (lg_sl ([.ref p0, .int x1]) ++ List.replicate (2 - (lg_sl ([.ref p0, .int x1])).length) Slot.unset).toArray = ls at hl ⊢
  have hl : lv_has ls 2 [(0, .ref p0), (1, .int x1)] := hl
  generalize hR : (f_X9_differed p0_2 x1) = R
  rw [f_X9_differed] at hR
  refine lv_iload_n hx hb dX9_differed_0 rfl (lv_at hl 1 rfl) ?_
  refine lv_iconst (v := (0 : Int32)) hx hb dX9_differed_1 (by decide) ?_
  refine lv_iconst (v := (1 : Int32)) hx hb dX9_differed_2 (by decide) ?_
  have j_1 : (0 : Int32).toInt = 0 := by decide
  have j_2 : (1 : Int32).toInt = 1 := by decide
  refine o_SiR (rest := []) (As := [.int x1, .int (0 : Int32), .int (1 : Int32)]) (n := 3) hx hb hml hown hts hK hN hZ hW hS hA (c_X9_in l G A Ω x1 (0 : Int32) (1 : Int32)) ml_X9_39 st_X9_in ini_X9 co_X9_in (by decide +kernel) ⟨Nat.zero_le _, Nat.zero_le _⟩ hl.1 (Nat.le_of_ble_eq_true rfl) rfl rfl dX9_differed_3 (fun r H locs hp hW hS => ?_)
  obtain ⟨rfl, hz_3⟩ := hp
  refine lv_if_eq (tgt := 22) hx hb dX9_differed_6 (by decide) (fun c_4 => ?_) (fun c_4 => ?_)
  · rw [if_pos c_4] at hR
    have i_4 := congrArg Int32.toInt c_4
    refine lv_iconst (v := (-1 : Int32)) hx hb dX9_differed_22 (by decide) ?_
    subst hR
    exact W.iret (v := (-1 : Int32)) hx hb hr (fun t ht hW9 => ⟨⟨(-1 : Int32), Ω, rfl, ⟨rfl, rfl⟩, by rw [oB, ht]; exact hW⟩, hS.F ht⟩) hS.2.2 dX9_differed_23
  · rw [if_neg c_4] at hR
    have i_4 := rne c_4
    have b_c_4 := rIN c_4
    refine lv_aload_n hx hb dX9_differed_9 rfl (lv_at hl 0 rfl) ?_
    refine o_get hx hb hts hown hK hW (inMod_o h_p0) rfl ig9 2 (by decide) fl_X9_16 rfl dX9_differed_10 ?_
    refine lv_sipush (v := (133 : Int32)) hx hb dX9_differed_13 (by decide) ?_
    refine lv_iload_n hx hb dX9_differed_16 rfl (lv_at hl 1 rfl) ?_
    refine lv_iadd hx hb dX9_differed_17 ?_
    have j_5 : (133 : Int32).toInt = 133 := by decide
    try have j_6 : ((133 : Int32) + x1).toInt = (133 : Int32).toInt + x1.toInt := fb_addI (by omega) (by omega)
    refine o_iald hx hb hK hW (inMod_a2 h_p0) (vp_in_iff.mpr ⟨by omega, by omega⟩) dX9_differed_18 ?_
    refine lv_goto (tgt := 23) hx hb dX9_differed_19 (by decide) ?_
    subst hR
    exact W.iret (v := (p0_2 ((133 : Int32) + x1).toNatClampNeg)) hx hb hr (fun t ht hW9 => ⟨⟨(p0_2 ((133 : Int32) + x1).toNatClampNeg), Ω, rfl, ⟨rfl, rfl⟩, by rw [oB, ht]; exact hW⟩, hS.F ht⟩) hS.2.2 dX9_differed_23
set_option maxHeartbeats 4000000 in
set_option maxRecDepth 100000 in
theorem c_X9_log (l : Launch) (G : Gm) (A : Nat → Prop) (Ω : Om) (p0 : Nat) (p0_0 : Fn) (p0_1 : Fn) (p0_2 : Fn) (p0_3 : Fn) (p0_4 : Int32) (p0_5 : Fn) (p0_6 : Fn) (p0_7 : Fn) (p0_8 : Int32) (p0_9 : Int32) (p0_10 : Int32) (p0_11 : Int32) (p0_12 : Int32) (p0_13 : Int32) (x1 : Int32) (x2 : Int32) (hn : 0 ≤ (p0_2 (72 : Int32).toNatClampNeg).toInt ∧ (p0_2 (72 : Int32).toNatClampNeg).toInt ≤ 20) (h_p0 : inMod G Ω p0 p0_0 p0_1 p0_2 p0_3 p0_4 p0_5 p0_6 p0_7 p0_8 p0_9 p0_10 p0_11 p0_12 p0_13) : Met l yX9_log (wz yX9_log cX9_log 3 (some .int)) ({ frames := 1, cells := 0, slots := 0, locals := 22 } : Room) (va_Pc [.ref p0, .int x1, .int x2] (oS G A Ω)) (va_Qi (fun (r : Int32) (Ω1 : Om) => r = (f_X9_log p0_2 x1 x2) ∧ Ω1 = Ω) (oB G A) A) 0 0 A := by
  refine Met.ofW (cc := cX9_log) (maxL := 3) (ret := (some .int)) (by decide) rfl ?_
  intro p e s m args below meth c s₁ B hml hv
  obtain ⟨rfl, hW, hK, hN, hZ⟩ := hv
  have hx := B.exec
  have hb := B.bytes
  have hr := B.returns
  have hts : ∀ w ∈ gt, w.before _ s = true := fun w hw => atoms_spec (ws := wz yX9_log cX9_log 3 (some .int)) B.pre w (List.mem_cons_of_mem _ hw)
  have hown : s.vm.findClass RX9 = some m.cls := findClass_of_methodNamed B.named
  have hlocks := B.notSynchronized
  have hA : ∀ q, A q → A q := fun _ h => h
  have hS : va_S A s.heap s.heap [] := va_S.rf
  have hS0 := hS
  have hl := lv_entry ([.ref p0, .int x1, .int x2]) (n := 3) (Nat.le_of_ble_eq_true rfl)
  rw [lg_entry_eq]
  generalize (lg_sl ([.ref p0, .int x1, .int x2]) ++ List.replicate (3 - (lg_sl ([.ref p0, .int x1, .int x2])).length) Slot.unset).toArray = ls at hl ⊢
  have hl : lv_has ls 3 [(0, .ref p0), (1, .int x1), (2, .int x2)] := hl
  generalize hR : (f_X9_log p0_2 x1 x2) = R
  rw [f_X9_log] at hR
  refine lv_iload_n hx hb dX9_log_0 rfl (lv_at hl 1 rfl) ?_
  have j_2 : (0 : Int32).toInt = 0 := by decide
  refine lv_if_lt (tgt := 13) hx hb dX9_log_1 (by decide) (fun c_1 => ?_) (fun c_1 => ?_)
  · rw [if_pos c_1] at hR
    have i_1 := rlt c_1
    refine lv_iconst (v := (-1 : Int32)) hx hb dX9_log_13 (by decide) ?_
    subst hR
    exact W.iret (v := (-1 : Int32)) hx hb hr (fun t ht hW9 => ⟨⟨(-1 : Int32), Ω, rfl, ⟨rfl, rfl⟩, by rw [oB, ht]; exact hW⟩, hS.F ht⟩) hS.2.2 dX9_log_14
  · rw [if_neg c_1] at hR
    have i_1 := rnlt c_1
    refine lv_iload_n hx hb dX9_log_4 rfl (lv_at hl 2 rfl) ?_
    refine lv_iconst (v := (0 : Int32)) hx hb dX9_log_5 (by decide) ?_
    refine lv_iconst (v := (2 : Int32)) hx hb dX9_log_6 (by decide) ?_
    have j_3 : (2 : Int32).toInt = 2 := by decide
    refine o_SiR (rest := []) (As := [.int x2, .int (0 : Int32), .int (2 : Int32)]) (n := 3) hx hb hml hown hts hK hN hZ hW hS hA (c_X9_in l G A Ω x2 (0 : Int32) (2 : Int32)) ml_X9_39 st_X9_in ini_X9 co_X9_in (by decide +kernel) ⟨Nat.zero_le _, Nat.zero_le _⟩ hl.1 (Nat.le_of_ble_eq_true rfl) rfl rfl dX9_log_7 (fun r H locs hp hW hS => ?_)
    obtain ⟨rfl, hz_4⟩ := hp
    refine lv_if_ne (tgt := 15) hx hb dX9_log_10 (by decide) (fun c_5 => ?_) (fun c_5 => ?_)
    · rw [if_neg c_5] at hR
      have i_5 := rne c_5
      have b_c_5 := rIN c_5
      refine lv_iload_n hx hb dX9_log_15 rfl (lv_at hl 1 rfl) ?_
      refine lv_aload_n hx hb dX9_log_16 rfl (lv_at hl 0 rfl) ?_
      refine o_get hx hb hts hown hK hW (inMod_o h_p0) rfl ig9 2 (by decide) fl_X9_16 rfl dX9_log_17 ?_
      refine lv_bipush (v := (72 : Int32)) hx hb dX9_log_20 (by decide) ?_
      have j_6 : (72 : Int32).toInt = 72 := by decide
      refine o_iald hx hb hK hW (inMod_a2 h_p0) (vp_in_iff.mpr ⟨by omega, by omega⟩) dX9_log_22 ?_
      refine lv_icmp_ge (tgt := 42) hx hb dX9_log_23 (by decide) (fun c_7 => ?_) (fun c_7 => ?_)
      · rw [if_pos c_7] at hR
        have i_7 := rle c_7
        refine lv_bipush (v := (-9 : Int32)) hx hb dX9_log_42 (by decide) ?_
        subst hR
        exact W.iret (v := (-9 : Int32)) hx hb hr (fun t ht hW9 => ⟨⟨(-9 : Int32), Ω, rfl, ⟨rfl, rfl⟩, by rw [oB, ht]; exact hW⟩, hS.F ht⟩) hS.2.2 dX9_log_44
      · rw [if_neg c_7] at hR
        have i_7 := rnle c_7
        refine lv_aload_n hx hb dX9_log_26 rfl (lv_at hl 0 rfl) ?_
        refine o_get hx hb hts hown hK hW (inMod_o h_p0) rfl ig9 2 (by decide) fl_X9_16 rfl dX9_log_27 ?_
        refine lv_bipush (v := (73 : Int32)) hx hb dX9_log_30 (by decide) ?_
        refine lv_iconst (v := (3 : Int32)) hx hb dX9_log_32 (by decide) ?_
        refine lv_iload_n hx hb dX9_log_33 rfl (lv_at hl 1 rfl) ?_
        refine lv_imul hx hb dX9_log_34 ?_
        refine lv_iadd hx hb dX9_log_35 ?_
        refine lv_iload_n hx hb dX9_log_36 rfl (lv_at hl 2 rfl) ?_
        refine lv_iadd hx hb dX9_log_37 ?_
        have j_8 : (73 : Int32).toInt = 73 := by decide
        have j_9 : (3 : Int32).toInt = 3 := by decide
        try have j_10 : ((3 : Int32) * x1).toInt = 3 * x1.toInt := rg_mul2 (by decide) (by omega) (by omega)
        try have j_11 : ((73 : Int32) + ((3 : Int32) * x1)).toInt = (73 : Int32).toInt + ((3 : Int32) * x1).toInt := fb_addI (by omega) (by omega)
        try have j_12 : (((73 : Int32) + ((3 : Int32) * x1)) + x2).toInt = ((73 : Int32) + ((3 : Int32) * x1)).toInt + x2.toInt := fb_addI (by omega) (by omega)
        refine o_iald hx hb hK hW (inMod_a2 h_p0) (vp_in_iff.mpr ⟨by omega, by omega⟩) dX9_log_38 ?_
        refine lv_goto (tgt := 44) hx hb dX9_log_39 (by decide) ?_
        subst hR
        exact W.iret (v := (p0_2 (((73 : Int32) + ((3 : Int32) * x1)) + x2).toNatClampNeg)) hx hb hr (fun t ht hW9 => ⟨⟨(p0_2 (((73 : Int32) + ((3 : Int32) * x1)) + x2).toNatClampNeg), Ω, rfl, ⟨rfl, rfl⟩, by rw [oB, ht]; exact hW⟩, hS.F ht⟩) hS.2.2 dX9_log_44
    · rw [if_pos c_5] at hR
      have i_5 := congrArg Int32.toInt c_5
      refine lv_iconst (v := (-1 : Int32)) hx hb dX9_log_13 (by decide) ?_
      subst hR
      exact W.iret (v := (-1 : Int32)) hx hb hr (fun t ht hW9 => ⟨⟨(-1 : Int32), Ω, rfl, ⟨rfl, rfl⟩, by rw [oB, ht]; exact hW⟩, hS.F ht⟩) hS.2.2 dX9_log_14
