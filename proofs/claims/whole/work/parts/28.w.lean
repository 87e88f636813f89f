set_option maxHeartbeats 4000000 in
set_option maxRecDepth 100000 in
theorem c_X9_readAlias (l : Launch) (G : Gm) (A : Nat → Prop) (Ω : Om) (p0 : Nat) (p0_0 : Fn) (p0_1 : Fn) (p0_2 : Fn) (p0_3 : Fn) (p0_4 : Int32) (p0_5 : Fn) (p0_6 : Fn) (p0_7 : Fn) (p0_8 : Int32) (p0_9 : Int32) (p0_10 : Int32) (p0_11 : Int32) (p0_12 : Int32) (p0_13 : Int32) (hy : 0 ≤ p0_8.toInt ∧ p0_8.toInt ≤ 160) (ha : 0 ≤ p0_9.toInt ∧ p0_9.toInt ≤ p0_8.toInt) (hta : 0 ≤ p0_10.toInt) (hD : DraftInv p0_1) (h92 : (p0_1 (92 : Int32).toNatClampNeg).toInt < 4) (h_p0 : inMod G Ω p0 p0_0 p0_1 p0_2 p0_3 p0_4 p0_5 p0_6 p0_7 p0_8 p0_9 p0_10 p0_11 p0_12 p0_13) : Met l yX9_readAlias (wz yX9_readAlias cX9_readAlias 5 none) ({ frames := 5, cells := 0, slots := 0, locals := 109 } : Room) (va_Pc [.ref p0] (oS G A Ω)) (va_Qv (fun (Ω1 : Om) => inMod G Ω1 p0 p0_0 ((f_X9_readAlias p0_1 p0_7 p0_8 p0_9 p0_10 p0_11 p0_12 p0_13).1) p0_2 p0_3 p0_4 p0_5 p0_6 p0_7 p0_8 ((f_X9_readAlias p0_1 p0_7 p0_8 p0_9 p0_10 p0_11 p0_12 p0_13).2.1) ((f_X9_readAlias p0_1 p0_7 p0_8 p0_9 p0_10 p0_11 p0_12 p0_13).2.2.1) ((f_X9_readAlias p0_1 p0_7 p0_8 p0_9 p0_10 p0_11 p0_12 p0_13).2.2.2.1) ((f_X9_readAlias p0_1 p0_7 p0_8 p0_9 p0_10 p0_11 p0_12 p0_13).2.2.2.2.1) ((f_X9_readAlias p0_1 p0_7 p0_8 p0_9 p0_10 p0_11 p0_12 p0_13).2.2.2.2.2) ∧ (∀ q : Nat, (q < p0 ∨ p0 + 8 ≤ q) → Ω1 q = Ω q)) (oB G A) A) 0 0 A := by
  refine Met.ofW (cc := cX9_readAlias) (maxL := 5) (ret := none) (by decide) rfl ?_
  intro p e s m args below meth c s₁ B hml hv
  obtain ⟨rfl, hW, hK, hN, hZ⟩ := hv
  have hx := B.exec
  have hb := B.bytes
  have hr := B.returns
  have hts : ∀ w ∈ gt, w.before _ s = true := fun w hw => atoms_spec (ws := wz yX9_readAlias cX9_readAlias 5 none) B.pre w (List.mem_cons_of_mem _ hw)
  have hown : s.vm.findClass RX9 = some m.cls := findClass_of_methodNamed B.named
  have hlocks := B.notSynchronized
  have hA : ∀ q, A q → A q := fun _ h => h
  have hS : va_S A s.heap s.heap [] := va_S.rf
  have hS0 := hS
  have hl := lv_entry ([.ref p0]) (n := 5) (Nat.le_of_ble_eq_true rfl)
  rw [lg_entry_eq]
  generalize (lg_sl ([.ref p0]) ++ List.replicate (5 - (lg_sl ([.ref p0])).length) Slot.unset).toArray = ls at hl ⊢
  have hl : lv_has ls 5 [(0, .ref p0)] := hl
  have hE : ∀ q : Nat, (q < p0 ∨ p0 + 8 ≤ q) → Ω q = Ω q := by intros; rfl
  generalize hR : (f_X9_readAlias p0_1 p0_7 p0_8 p0_9 p0_10 p0_11 p0_12 p0_13) = R
  rw [f_X9_readAlias] at hR
  refine lv_aload_n hx hb dX9_readAlias_0 rfl (lv_at hl 0 rfl) ?_
  refine lv_iconst (v := (0 : Int32)) hx hb dX9_readAlias_1 (by decide) ?_
  refine lv_bipush (v := (15 : Int32)) hx hb dX9_readAlias_2 (by decide) ?_
  have j_1 : (0 : Int32).toInt = 0 := by decide
  have j_2 : (15 : Int32).toInt = 15 := by decide
  refine o_Vi (rest := []) (As := [.int (0 : Int32), .int (15 : Int32)]) (n := 2) hx hb hml hown hts hK hN hZ hW hS hA (c_X9_number l G A Ω p0 p0_0 p0_1 p0_2 p0_3 p0_4 p0_5 p0_6 p0_7 p0_8 p0_9 p0_10 p0_11 p0_12 p0_13 (0 : Int32) (15 : Int32) (by omega) (by omega) (by omega) h_p0) (inMod_o h_p0) rfl (good_V ml_X9_179 im_X9_number se_X9_number ini_X9 co_X9_number) (by decide +kernel) ⟨Nat.zero_le _, Nat.zero_le _⟩ hl.1 (Nat.le_of_ble_eq_true rfl) rfl rfl dX9_readAlias_4 (fun r Ω_3 H locs hp hW hS => ?_)
  obtain ⟨rfl, h_p0, hF_3⟩ := hp
  have hE : ∀ q : Nat, (q < p0 ∨ p0 + 8 ≤ q) → Ω_3 q = Ω q := fun q g0 => (hF_3 q (by omega)).trans (hE q g0)
  have qm_3 : p0_9.toInt ≤ (f_X9_number p0_7 p0_8 p0_9 p0_10 p0_11 p0_12 p0_13 (0 : Int32) (15 : Int32)).2.1.toInt ∧ (f_X9_number p0_7 p0_8 p0_9 p0_10 p0_11 p0_12 p0_13 (0 : Int32) (15 : Int32)).2.1.toInt ≤ p0_8.toInt := (number_MR hy (by omega) (by omega)).1
  have qa_3 : 0 ≤ (f_X9_number p0_7 p0_8 p0_9 p0_10 p0_11 p0_12 p0_13 (0 : Int32) (15 : Int32)).2.2.1.toInt := (number_MR hy (by omega) (by omega)).2.1
  have qf_3 : (f_X9_number p0_7 p0_8 p0_9 p0_10 p0_11 p0_12 p0_13 (0 : Int32) (15 : Int32)).2.2.2.2.2.toInt ≠ -9 ∨ (p0_13.toInt = -9 ∧ ((f_X9_number p0_7 p0_8 p0_9 p0_10 p0_11 p0_12 p0_13 (0 : Int32) (15 : Int32)).2.2.2.1.toInt = 0 ∨ p0_9.toInt < (f_X9_number p0_7 p0_8 p0_9 p0_10 p0_11 p0_12 p0_13 (0 : Int32) (15 : Int32)).2.1.toInt)) := (number_MR hy (by omega) (by omega)).2.2
  have qn_3 : (f_X9_number p0_7 p0_8 p0_9 p0_10 p0_11 p0_12 p0_13 (0 : Int32) (15 : Int32)).2.2.2.2.2.toInt ≠ -9 ∨ ((0 : Int32).toInt ≤ (f_X9_number p0_7 p0_8 p0_9 p0_10 p0_11 p0_12 p0_13 (0 : Int32) (15 : Int32)).1.toInt ∧ (f_X9_number p0_7 p0_8 p0_9 p0_10 p0_11 p0_12 p0_13 (0 : Int32) (15 : Int32)).1.toInt ≤ (15 : Int32).toInt) := number_ok hy (by omega) (by omega)
  generalize (f_X9_number p0_7 p0_8 p0_9 p0_10 p0_11 p0_12 p0_13 (0 : Int32) (15 : Int32)) = Z_3 at h_p0 hR qm_3 qa_3 qf_3 qn_3 ⊢
  obtain ⟨z3_0, z3_1, z3_2, z3_3, z3_4, z3_5⟩ := Z_3
  dsimp only at h_p0 hR qm_3 qa_3 qf_3 qn_3 ⊢
  rw [f_X9_readAlias_C7] at hR
  refine lv_istore_n (lv' := [(1, .int z3_0), (0, .ref p0)]) hx hb dX9_readAlias_7 rfl hl (by decide) rfl (fun ls hl => ?_)
  refine lv_aload_n hx hb dX9_readAlias_8 rfl (lv_at hl 1 rfl) ?_
  refine lv_iconst (v := (0 : Int32)) hx hb dX9_readAlias_9 (by decide) ?_
  refine lv_aload_n hx hb dX9_readAlias_10 rfl (lv_at hl 1 rfl) ?_
  refine o_get hx hb hts hown hK hW (inMod_o h_p0) rfl ig9 1 (by decide) fl_X9_13 rfl dX9_readAlias_11 ?_
  refine lv_bipush (v := (90 : Int32)) hx hb dX9_readAlias_14 (by decide) ?_
  have j_4 : (90 : Int32).toInt = 90 := by decide
  refine o_iald hx hb hK hW (inMod_a1 h_p0) (vp_in_iff.mpr ⟨by omega, by omega⟩) dX9_readAlias_16 ?_
  refine lv_iconst (v := (1 : Int32)) hx hb dX9_readAlias_17 (by decide) ?_
  refine lv_isub hx hb dX9_readAlias_18 ?_
  try have j_5 : 0 ≤ (p0_1 (90 : Int32).toNatClampNeg).toInt ∧ (p0_1 (90 : Int32).toNatClampNeg).toInt ≤ 6 := DI_90 hD
  have j_6 : (1 : Int32).toInt = 1 := by decide
  try have j_7 : ((p0_1 (90 : Int32).toNatClampNeg) - (1 : Int32)).toInt = (p0_1 (90 : Int32).toNatClampNeg).toInt - (1 : Int32).toInt := fb_subI (by omega) (by omega)
  refine o_Vi (rest := []) (As := [.int (0 : Int32), .int ((p0_1 (90 : Int32).toNatClampNeg) - (1 : Int32))]) (n := 2) hx hb hml hown hts hK hN hZ hW hS hA (c_X9_number l G A Ω_3 p0 p0_0 p0_1 p0_2 p0_3 p0_4 p0_5 p0_6 p0_7 p0_8 z3_1 z3_2 z3_3 z3_4 z3_5 (0 : Int32) ((p0_1 (90 : Int32).toNatClampNeg) - (1 : Int32)) (by omega) (by omega) (by omega) h_p0) (inMod_o h_p0) rfl (good_V ml_X9_179 im_X9_number se_X9_number ini_X9 co_X9_number) (by decide +kernel) ⟨Nat.zero_le _, Nat.zero_le _⟩ hl.1 (Nat.le_of_ble_eq_true rfl) rfl rfl dX9_readAlias_19 (fun r Ω_8 H locs hp hW hS => ?_)
  obtain ⟨rfl, h_p0, hF_8⟩ := hp
  have hE : ∀ q : Nat, (q < p0 ∨ p0 + 8 ≤ q) → Ω_8 q = Ω q := fun q g0 => (hF_8 q (by omega)).trans (hE q g0)
  have qm_8 : z3_1.toInt ≤ (f_X9_number p0_7 p0_8 z3_1 z3_2 z3_3 z3_4 z3_5 (0 : Int32) ((p0_1 (90 : Int32).toNatClampNeg) - (1 : Int32))).2.1.toInt ∧ (f_X9_number p0_7 p0_8 z3_1 z3_2 z3_3 z3_4 z3_5 (0 : Int32) ((p0_1 (90 : Int32).toNatClampNeg) - (1 : Int32))).2.1.toInt ≤ p0_8.toInt := (number_MR hy (by omega) (by omega)).1
  have qa_8 : 0 ≤ (f_X9_number p0_7 p0_8 z3_1 z3_2 z3_3 z3_4 z3_5 (0 : Int32) ((p0_1 (90 : Int32).toNatClampNeg) - (1 : Int32))).2.2.1.toInt := (number_MR hy (by omega) (by omega)).2.1
  have qf_8 : (f_X9_number p0_7 p0_8 z3_1 z3_2 z3_3 z3_4 z3_5 (0 : Int32) ((p0_1 (90 : Int32).toNatClampNeg) - (1 : Int32))).2.2.2.2.2.toInt ≠ -9 ∨ (z3_5.toInt = -9 ∧ ((f_X9_number p0_7 p0_8 z3_1 z3_2 z3_3 z3_4 z3_5 (0 : Int32) ((p0_1 (90 : Int32).toNatClampNeg) - (1 : Int32))).2.2.2.1.toInt = 0 ∨ z3_1.toInt < (f_X9_number p0_7 p0_8 z3_1 z3_2 z3_3 z3_4 z3_5 (0 : Int32) ((p0_1 (90 : Int32).toNatClampNeg) - (1 : Int32))).2.1.toInt)) := (number_MR hy (by omega) (by omega)).2.2
  have qn_8 : (f_X9_number p0_7 p0_8 z3_1 z3_2 z3_3 z3_4 z3_5 (0 : Int32) ((p0_1 (90 : Int32).toNatClampNeg) - (1 : Int32))).2.2.2.2.2.toInt ≠ -9 ∨ ((0 : Int32).toInt ≤ (f_X9_number p0_7 p0_8 z3_1 z3_2 z3_3 z3_4 z3_5 (0 : Int32) ((p0_1 (90 : Int32).toNatClampNeg) - (1 : Int32))).1.toInt ∧ (f_X9_number p0_7 p0_8 z3_1 z3_2 z3_3 z3_4 z3_5 (0 : Int32) ((p0_1 (90 : Int32).toNatClampNeg) - (1 : Int32))).1.toInt ≤ ((p0_1 (90 : Int32).toNatClampNeg) - (1 : Int32)).toInt) := number_ok hy (by omega) (by omega)
  generalize (f_X9_number p0_7 p0_8 z3_1 z3_2 z3_3 z3_4 z3_5 (0 : Int32) ((p0_1 (90 : Int32).toNatClampNeg) - (1 : Int32))) = Z_8 at h_p0 hR qm_8 qa_8 qf_8 qn_8 ⊢
  obtain ⟨z8_0, z8_1, z8_2, z8_3, z8_4, z8_5⟩ := Z_8
  dsimp only at h_p0 hR qm_8 qa_8 qf_8 qn_8 ⊢
  rw [f_X9_readAlias_C22] at hR
  refine lv_istore_n (lv' := [(2, .int z8_0), (1, .int z3_0), (0, .ref p0)]) hx hb dX9_readAlias_22 rfl hl (by decide) rfl (fun ls hl => ?_)
  refine lv_aload_n hx hb dX9_readAlias_23 rfl (lv_at hl 2 rfl) ?_
  refine o_get hx hb hts hown hK hW (inMod_o h_p0) rfl ig9 11 (by decide) fl_X9_162 rfl dX9_readAlias_24 ?_
  refine lv_iconst (v := (4 : Int32)) hx hb dX9_readAlias_27 (by decide) ?_
  have J43 : ∀ (s0_9 : Int32) (H : Heap) (locs : List Loc), oW G A Ω_8 H → va_S A s.heap H locs → ∀ ls : Array Slot, lv_has ls 5 [(0, .ref p0), (1, .int z3_0), (2, .int z8_0)] → (f_X9_readAlias_J43 p0_1 p0_7 p0_8 z8_1 z8_2 z8_3 z8_4 z8_5 z3_0 z8_0 s0_9) = R → W p l e (headSpec (wz yX9_readAlias cX9_readAlias 5 none) ({ frames := 5, cells := 0, slots := 0, locals := 109 } : Room)).room s m ([.ref p0] : List Value).toArray below meth c H locs 0 0 (MQ below (va_Qv (fun (Ω1 : Om) => inMod G Ω1 p0 p0_0 (R.1) p0_2 p0_3 p0_4 p0_5 p0_6 p0_7 p0_8 (R.2.1) (R.2.2.1) (R.2.2.2.1) (R.2.2.2.2.1) (R.2.2.2.2.2) ∧ (∀ q : Nat, (q < p0 ∨ p0 + 8 ≤ q) → Ω1 q = Ω q)) (oB G A) A) ([.ref p0] : List Value).toArray s 0 0 A) (F0 m 43 ls [.int s0_9]) := by
    intro s0_9 H locs hW hS ls hl hR
    rw [f_X9_readAlias_J43] at hR
    refine lv_istore_n (lv' := [(3, .int s0_9), (0, .ref p0), (1, .int z3_0), (2, .int z8_0)]) hx hb dX9_readAlias_43 rfl hl (by decide) rfl (fun ls hl => ?_)
    refine lv_aload_n hx hb dX9_readAlias_44 rfl (lv_at hl 1 rfl) ?_
    refine lv_iload_n hx hb dX9_readAlias_45 rfl (lv_at hl 0 rfl) ?_
    have J74 : ∀ (s1_10 : Int32) (H : Heap) (locs : List Loc), oW G A Ω_8 H → va_S A s.heap H locs → ∀ ls : Array Slot, lv_has ls 5 [(0, .ref p0), (1, .int z3_0), (2, .int z8_0), (3, .int s0_9)] → (f_X9_readAlias_J74 p0_1 p0_7 p0_8 z8_1 z8_2 z8_3 z8_4 z8_5 z3_0 z8_0 s0_9 s1_10) = R → W p l e (headSpec (wz yX9_readAlias cX9_readAlias 5 none) ({ frames := 5, cells := 0, slots := 0, locals := 109 } : Room)).room s m ([.ref p0] : List Value).toArray below meth c H locs 0 0 (MQ below (va_Qv (fun (Ω1 : Om) => inMod G Ω1 p0 p0_0 (R.1) p0_2 p0_3 p0_4 p0_5 p0_6 p0_7 p0_8 (R.2.1) (R.2.2.1) (R.2.2.2.1) (R.2.2.2.2.1) (R.2.2.2.2.2) ∧ (∀ q : Nat, (q < p0 ∨ p0 + 8 ≤ q) → Ω1 q = Ω q)) (oB G A) A) ([.ref p0] : List Value).toArray s 0 0 A) (F0 m 74 ls [.int s1_10, .ref p0]) := by
      intro s1_10 H locs hW hS ls hl hR
      rw [f_X9_readAlias_J74] at hR
      refine o_Vi (rest := []) (As := [.int s1_10]) (n := 1) hx hb hml hown hts hK hN hZ hW hS hA (c_X9_must l G A Ω_8 p0 p0_0 p0_1 p0_2 p0_3 p0_4 p0_5 p0_6 p0_7 p0_8 z8_1 z8_2 z8_3 z8_4 z8_5 s1_10 (by omega) (by omega) (by omega) h_p0) (inMod_o h_p0) rfl (good_V ml_X9_175 im_X9_must se_X9_must ini_X9 co_X9_must) (by decide +kernel) ⟨Nat.zero_le _, Nat.zero_le _⟩ hl.1 (Nat.le_of_ble_eq_true rfl) rfl rfl dX9_readAlias_74 (fun r Ω_11 H locs hp hW hS => ?_)
      obtain ⟨rfl, h_p0, hF_11⟩ := hp
      have hE : ∀ q : Nat, (q < p0 ∨ p0 + 8 ≤ q) → Ω_11 q = Ω q := fun q g0 => (hF_11 q (by omega)).trans (hE q g0)
      have qm_11 : z8_1.toInt ≤ (f_X9_must p0_7 p0_8 z8_1 z8_2 z8_3 z8_4 z8_5 s1_10).2.1.toInt ∧ (f_X9_must p0_7 p0_8 z8_1 z8_2 z8_3 z8_4 z8_5 s1_10).2.1.toInt ≤ p0_8.toInt := (must_MR hy (by omega) (by omega)).1
      have qa_11 : 0 ≤ (f_X9_must p0_7 p0_8 z8_1 z8_2 z8_3 z8_4 z8_5 s1_10).2.2.1.toInt := (must_MR hy (by omega) (by omega)).2.1
      have qf_11 : (f_X9_must p0_7 p0_8 z8_1 z8_2 z8_3 z8_4 z8_5 s1_10).2.2.2.2.2.toInt ≠ -9 ∨ (z8_5.toInt = -9 ∧ ((f_X9_must p0_7 p0_8 z8_1 z8_2 z8_3 z8_4 z8_5 s1_10).2.2.2.1.toInt = 0 ∨ z8_1.toInt < (f_X9_must p0_7 p0_8 z8_1 z8_2 z8_3 z8_4 z8_5 s1_10).2.1.toInt)) := (must_MR hy (by omega) (by omega)).2.2
      have qs_11 : (f_X9_must p0_7 p0_8 z8_1 z8_2 z8_3 z8_4 z8_5 s1_10).2.2.2.2.2.toInt ≠ -9 ∨ s1_10.toInt ≠ 0 := must_is hy (by omega) (by omega)
      have qi_11 : (f_X9_must p0_7 p0_8 z8_1 z8_2 z8_3 z8_4 z8_5 s1_10).1.toInt = z8_4.toInt := congrArg Int32.toInt must_its
      generalize (f_X9_must p0_7 p0_8 z8_1 z8_2 z8_3 z8_4 z8_5 s1_10) = Z_11 at h_p0 hR qm_11 qa_11 qf_11 qs_11 qi_11 ⊢
      obtain ⟨z11_0, z11_1, z11_2, z11_3, z11_4, z11_5⟩ := Z_11
      dsimp only at h_p0 hR qm_11 qa_11 qf_11 qs_11 qi_11 ⊢
      rw [f_X9_readAlias_C77] at hR
      refine lv_pop hx hb dX9_readAlias_77 rfl ?_
      refine lv_aload_n hx hb dX9_readAlias_78 rfl (lv_at hl 0 rfl) ?_
      refine o_get hx hb hts hown hK hW (inMod_o h_p0) rfl ig9 13 (by decide) fl_X9_169 rfl dX9_readAlias_79 ?_
      refine lv_bipush (v := (-9 : Int32)) hx hb dX9_readAlias_82 (by decide) ?_
      have j_13 : (-9 : Int32).toInt = -9 := by decide
      refine lv_icmp_ne (tgt := 140) hx hb dX9_readAlias_84 (by decide) (fun c_12 => ?_) (fun c_12 => ?_)
      · rw [if_neg c_12] at hR
        have i_12 := rne c_12
        subst hR
        exact W.vret hx hb hr (fun t ht hW9 => ⟨⟨Ω_11, rfl, ⟨h_p0, hE⟩, by rw [oB, ht]; exact hW⟩, hS.F ht⟩) hS.2.2 dX9_readAlias_140
      · rw [if_pos c_12] at hR
        have i_12 := congrArg Int32.toInt c_12
        refine lv_aload_n hx hb dX9_readAlias_87 rfl (lv_at hl 0 rfl) ?_
        refine o_get hx hb hts hown hK hW (inMod_o h_p0) rfl ig9 1 (by decide) fl_X9_13 rfl dX9_readAlias_88 ?_
        refine lv_bipush (v := (92 : Int32)) hx hb dX9_readAlias_91 (by decide) ?_
        have j_14 : (92 : Int32).toInt = 92 := by decide
        refine o_iald hx hb hK hW (inMod_a1 h_p0) (vp_in_iff.mpr ⟨by omega, by omega⟩) dX9_readAlias_93 ?_
        refine lv_istore (lv' := [(4, .int (p0_1 (92 : Int32).toNatClampNeg)), (0, .ref p0), (1, .int z3_0), (2, .int z8_0), (3, .int s0_9)]) hx hb dX9_readAlias_94 hl (by decide) rfl (fun ls hl => ?_)
        refine lv_aload_n hx hb dX9_readAlias_96 rfl (lv_at hl 1 rfl) ?_
        refine o_get hx hb hts hown hK hW (inMod_o h_p0) rfl ig9 1 (by decide) fl_X9_13 rfl dX9_readAlias_97 ?_
        refine lv_bipush (v := (78 : Int32)) hx hb dX9_readAlias_100 (by decide) ?_
        refine lv_iload hx hb dX9_readAlias_102 (lv_at hl 0 rfl) ?_
        refine lv_iadd hx hb dX9_readAlias_104 ?_
        refine lv_iload_n hx hb dX9_readAlias_105 rfl (lv_at hl 2 rfl) ?_
        have j_15 : (78 : Int32).toInt = 78 := by decide
        try have j_16 : 0 ≤ (p0_1 (92 : Int32).toNatClampNeg).toInt ∧ (p0_1 (92 : Int32).toNatClampNeg).toInt ≤ 4 := DI_92 hD
        try have j_17 : ((78 : Int32) + (p0_1 (92 : Int32).toNatClampNeg)).toInt = (78 : Int32).toInt + (p0_1 (92 : Int32).toNatClampNeg).toInt := fb_addI (by omega) (by omega)
        refine wMod_1 hx hb hK hW hS hA h_p0 (vp_in_iff.mpr ⟨by omega, by omega⟩) dX9_readAlias_106 (fun Ω_18 H locs h_p0 hF_18 hW hS => ?_)
        have hE : ∀ q : Nat, (q < p0 ∨ p0 + 8 ≤ q) → Ω_18 q = Ω q := fun q g0 => (hF_18 q (by omega)).trans (hE q g0)
        refine lv_aload_n hx hb dX9_readAlias_107 rfl (lv_at hl 1 rfl) ?_
        refine o_get hx hb hts hown hK hW (inMod_o h_p0) rfl ig9 1 (by decide) fl_X9_13 rfl dX9_readAlias_108 ?_
        refine lv_bipush (v := (82 : Int32)) hx hb dX9_readAlias_111 (by decide) ?_
        refine lv_iload hx hb dX9_readAlias_113 (lv_at hl 0 rfl) ?_
        refine lv_iadd hx hb dX9_readAlias_115 ?_
        refine lv_iload_n hx hb dX9_readAlias_116 rfl (lv_at hl 3 rfl) ?_
        have j_19 : (82 : Int32).toInt = 82 := by decide
        try have j_20 : ((82 : Int32) + (p0_1 (92 : Int32).toNatClampNeg)).toInt = (82 : Int32).toInt + (p0_1 (92 : Int32).toNatClampNeg).toInt := fb_addI (by omega) (by omega)
        refine wMod_1 hx hb hK hW hS hA h_p0 (vp_in_iff.mpr ⟨by omega, by omega⟩) dX9_readAlias_117 (fun Ω_21 H locs h_p0 hF_21 hW hS => ?_)
        have hE : ∀ q : Nat, (q < p0 ∨ p0 + 8 ≤ q) → Ω_21 q = Ω q := fun q g0 => (hF_21 q (by omega)).trans (hE q g0)
        refine lv_aload_n hx hb dX9_readAlias_118 rfl (lv_at hl 1 rfl) ?_
        refine o_get hx hb hts hown hK hW (inMod_o h_p0) rfl ig9 1 (by decide) fl_X9_13 rfl dX9_readAlias_119 ?_
        refine lv_bipush (v := (86 : Int32)) hx hb dX9_readAlias_122 (by decide) ?_
        refine lv_iload hx hb dX9_readAlias_124 (lv_at hl 0 rfl) ?_
        refine lv_iadd hx hb dX9_readAlias_126 ?_
        refine lv_iload_n hx hb dX9_readAlias_127 rfl (lv_at hl 4 rfl) ?_
        have j_22 : (86 : Int32).toInt = 86 := by decide
        try have j_23 : ((86 : Int32) + (p0_1 (92 : Int32).toNatClampNeg)).toInt = (86 : Int32).toInt + (p0_1 (92 : Int32).toNatClampNeg).toInt := fb_addI (by omega) (by omega)
        refine wMod_1 hx hb hK hW hS hA h_p0 (vp_in_iff.mpr ⟨by omega, by omega⟩) dX9_readAlias_128 (fun Ω_24 H locs h_p0 hF_24 hW hS => ?_)
        have hE : ∀ q : Nat, (q < p0 ∨ p0 + 8 ≤ q) → Ω_24 q = Ω q := fun q g0 => (hF_24 q (by omega)).trans (hE q g0)
        refine lv_aload_n hx hb dX9_readAlias_129 rfl (lv_at hl 1 rfl) ?_
        refine o_get hx hb hts hown hK hW (inMod_o h_p0) rfl ig9 1 (by decide) fl_X9_13 rfl dX9_readAlias_130 ?_
        refine lv_bipush (v := (92 : Int32)) hx hb dX9_readAlias_133 (by decide) ?_
        refine lv_dup2_11 hx hb dX9_readAlias_135 rfl rfl ?_
        refine o_iald hx hb hK hW (inMod_a1 h_p0) (vp_in_iff.mpr ⟨by omega, by omega⟩) dX9_readAlias_136 ?_
        refine lv_iconst (v := (1 : Int32)) hx hb dX9_readAlias_137 (by decide) ?_
        refine lv_iadd hx hb dX9_readAlias_138 ?_
        refine wMod_1 hx hb hK hW hS hA h_p0 (vp_in_iff.mpr ⟨by omega, by omega⟩) dX9_readAlias_139 (fun Ω_25 H locs h_p0 hF_25 hW hS => ?_)
        have hE : ∀ q : Nat, (q < p0 ∨ p0 + 8 ≤ q) → Ω_25 q = Ω q := fun q g0 => (hF_25 q (by omega)).trans (hE q g0)
        subst hR
        exact W.vret hx hb hr (fun t ht hW9 => ⟨⟨Ω_25, rfl, ⟨h_p0, hE⟩, by rw [oB, ht]; exact hW⟩, hS.F ht⟩) hS.2.2 dX9_readAlias_140
    have J69 : ∀ (H : Heap) (locs : List Loc), oW G A Ω_8 H → va_S A s.heap H locs → ∀ ls : Array Slot, lv_has ls 5 [(0, .ref p0), (1, .int z3_0), (2, .int z8_0), (3, .int s0_9)] → (f_X9_readAlias_J69 p0_1 p0_7 p0_8 z8_1 z8_2 z8_3 z8_4 z8_5 z3_0 z8_0 s0_9) = R → W p l e (headSpec (wz yX9_readAlias cX9_readAlias 5 none) ({ frames := 5, cells := 0, slots := 0, locals := 109 } : Room)).room s m ([.ref p0] : List Value).toArray below meth c H locs 0 0 (MQ below (va_Qv (fun (Ω1 : Om) => inMod G Ω1 p0 p0_0 (R.1) p0_2 p0_3 p0_4 p0_5 p0_6 p0_7 p0_8 (R.2.1) (R.2.2.1) (R.2.2.2.1) (R.2.2.2.2.1) (R.2.2.2.2.2) ∧ (∀ q : Nat, (q < p0 ∨ p0 + 8 ≤ q) → Ω1 q = Ω q)) (oB G A) A) ([.ref p0] : List Value).toArray s 0 0 A) (F0 m 69 ls [.ref p0]) := by
      intro H locs hW hS ls hl hR
      rw [f_X9_readAlias_J69] at hR
      refine lv_iconst (v := (1 : Int32)) hx hb dX9_readAlias_69 (by decide) ?_
      refine lv_goto (tgt := 74) hx hb dX9_readAlias_70 (by decide) ?_
      exact J74 (1 : Int32) H locs hW hS ls (lv_sub hl [0, 1, 2, 3] rfl) hR
    refine lv_if_eq (tgt := 69) hx hb dX9_readAlias_46 (by decide) (fun c_27 => ?_) (fun c_27 => ?_)
    · rw [if_pos c_27] at hR
      have i_27 := congrArg Int32.toInt c_27
      exact J69 H locs hW hS ls (lv_sub hl [1, 2, 3, 0] rfl) hR
    · rw [if_neg c_27] at hR
      have i_27 := rne c_27
      refine lv_iload_n hx hb dX9_readAlias_49 rfl (lv_at hl 0 rfl) ?_
      refine lv_iconst (v := (1 : Int32)) hx hb dX9_readAlias_50 (by decide) ?_
      refine lv_icmp_eq (tgt := 69) hx hb dX9_readAlias_51 (by decide) (fun c_28 => ?_) (fun c_28 => ?_)
      · rw [if_pos c_28] at hR
        have i_28 := congrArg Int32.toInt c_28
        exact J69 H locs hW hS ls (lv_sub hl [1, 2, 3, 0] rfl) hR
      · rw [if_neg c_28] at hR
        have i_28 := rne c_28
        refine lv_iload_n hx hb dX9_readAlias_54 rfl (lv_at hl 0 rfl) ?_
        refine lv_iconst (v := (3 : Int32)) hx hb dX9_readAlias_55 (by decide) ?_
        have j_30 : (3 : Int32).toInt = 3 := by decide
        refine lv_icmp_eq (tgt := 69) hx hb dX9_readAlias_56 (by decide) (fun c_29 => ?_) (fun c_29 => ?_)
        · rw [if_pos c_29] at hR
          have i_29 := congrArg Int32.toInt c_29
          exact J69 H locs hW hS ls (lv_sub hl [1, 2, 3, 0] rfl) hR
        · rw [if_neg c_29] at hR
          have i_29 := rne c_29
          refine lv_iload_n hx hb dX9_readAlias_59 rfl (lv_at hl 0 rfl) ?_
          refine lv_iconst (v := (4 : Int32)) hx hb dX9_readAlias_60 (by decide) ?_
          have j_32 : (4 : Int32).toInt = 4 := by decide
          refine lv_icmp_eq (tgt := 69) hx hb dX9_readAlias_61 (by decide) (fun c_31 => ?_) (fun c_31 => ?_)
          · rw [if_pos c_31] at hR
            have i_31 := congrArg Int32.toInt c_31
            exact J69 H locs hW hS ls (lv_sub hl [1, 2, 3, 0] rfl) hR
          · rw [if_neg c_31] at hR
            have i_31 := rne c_31
            refine lv_iload_n hx hb dX9_readAlias_64 rfl (lv_at hl 0 rfl) ?_
            refine lv_iconst (v := (5 : Int32)) hx hb dX9_readAlias_65 (by decide) ?_
            have j_34 : (5 : Int32).toInt = 5 := by decide
            refine lv_icmp_ne (tgt := 73) hx hb dX9_readAlias_66 (by decide) (fun c_33 => ?_) (fun c_33 => ?_)
            · rw [if_neg c_33] at hR
              have i_33 := rne c_33
              refine lv_iconst (v := (0 : Int32)) hx hb dX9_readAlias_73 (by decide) ?_
              exact J74 (0 : Int32) H locs hW hS ls (lv_sub hl [1, 2, 3, 0] rfl) hR
            · rw [if_pos c_33] at hR
              have i_33 := congrArg Int32.toInt c_33
              exact J69 H locs hW hS ls (lv_sub hl [1, 2, 3, 0] rfl) hR
  have j_36 : (4 : Int32).toInt = 4 := by decide
  refine lv_icmp_ne (tgt := 41) hx hb dX9_readAlias_28 (by decide) (fun c_35 => ?_) (fun c_35 => ?_)
  · rw [if_neg c_35] at hR
    have i_35 := rne c_35
    refine lv_bipush (v := (-9 : Int32)) hx hb dX9_readAlias_41 (by decide) ?_
    have j_37 : (-9 : Int32).toInt = -9 := by decide
    exact J43 (-9 : Int32) H locs hW hS ls (lv_sub hl [2, 1, 0] rfl) hR
  · rw [if_pos c_35] at hR
    have i_35 := congrArg Int32.toInt c_35
    refine lv_aload_n hx hb dX9_readAlias_31 rfl (lv_at hl 2 rfl) ?_
    refine o_get hx hb hts hown hK hW (inMod_o h_p0) rfl ig9 12 (by decide) fl_X9_159 rfl dX9_readAlias_32 ?_
    refine o_SiR (rest := []) (As := [.int z8_4]) (n := 1) hx hb hml hown hts hK hN hZ hW hS hA (c_X9_kindOf l G A Ω_8 z8_4) ml_X9_166 st_X9_kindOf ini_X9 co_X9_kindOf (by decide +kernel) ⟨Nat.zero_le _, Nat.zero_le _⟩ hl.1 (Nat.le_of_ble_eq_true rfl) rfl rfl dX9_readAlias_35 (fun r H locs hp hW hS => ?_)
    subst hp
    refine lv_goto (tgt := 43) hx hb dX9_readAlias_38 (by decide) ?_
    exact J43 (f_X9_kindOf z8_4) H locs hW hS ls (lv_sub hl [2, 1, 0] rfl) hR
set_option maxHeartbeats 4000000 in
set_option maxRecDepth 100000 in
theorem c_X9_readLink (l : Launch) (G : Gm) (A : Nat → Prop) (Ω : Om) (p0 : Nat) (p0_0 : Fn) (p0_1 : Fn) (p0_2 : Fn) (p0_3 : Fn) (p0_4 : Int32) (p0_5 : Fn) (p0_6 : Fn) (p0_7 : Fn) (p0_8 : Int32) (p0_9 : Int32) (p0_10 : Int32) (p0_11 : Int32) (p0_12 : Int32) (p0_13 : Int32) (x1 : Int32) (hy : 0 ≤ p0_8.toInt ∧ p0_8.toInt ≤ 160) (ha : 0 ≤ p0_9.toInt ∧ p0_9.toInt ≤ p0_8.toInt) (hta : 0 ≤ p0_10.toInt) (hD : DraftInv p0_1) (hw : x1.toInt = 6 ∨ x1.toInt = 12) (h_p0 : inMod G Ω p0 p0_0 p0_1 p0_2 p0_3 p0_4 p0_5 p0_6 p0_7 p0_8 p0_9 p0_10 p0_11 p0_12 p0_13) : Met l yX9_readLink (wz yX9_readLink cX9_readLink 4 none) ({ frames := 4, cells := 0, slots := 0, locals := 87 } : Room) (va_Pc [.ref p0, .int x1] (oS G A Ω)) (va_Qv (fun (Ω1 : Om) => inMod G Ω1 p0 p0_0 ((f_X9_readLink p0_1 p0_7 p0_8 p0_9 p0_10 p0_11 p0_12 p0_13 x1).1) p0_2 p0_3 p0_4 p0_5 p0_6 p0_7 p0_8 ((f_X9_readLink p0_1 p0_7 p0_8 p0_9 p0_10 p0_11 p0_12 p0_13 x1).2.1) ((f_X9_readLink p0_1 p0_7 p0_8 p0_9 p0_10 p0_11 p0_12 p0_13 x1).2.2.1) ((f_X9_readLink p0_1 p0_7 p0_8 p0_9 p0_10 p0_11 p0_12 p0_13 x1).2.2.2.1) ((f_X9_readLink p0_1 p0_7 p0_8 p0_9 p0_10 p0_11 p0_12 p0_13 x1).2.2.2.2.1) ((f_X9_readLink p0_1 p0_7 p0_8 p0_9 p0_10 p0_11 p0_12 p0_13 x1).2.2.2.2.2) ∧ (∀ q : Nat, (q < p0 ∨ p0 + 8 ≤ q) → Ω1 q = Ω q)) (oB G A) A) 0 0 A := by
  refine Met.ofW (cc := cX9_readLink) (maxL := 4) (ret := none) (by decide) rfl ?_
  intro p e s m args below meth c s₁ B hml hv
  obtain ⟨rfl, hW, hK, hN, hZ⟩ := hv
  have hx := B.exec
  have hb := B.bytes
  have hr := B.returns
  have hts : ∀ w ∈ gt, w.before _ s = true := fun w hw => atoms_spec (ws := wz yX9_readLink cX9_readLink 4 none) B.pre w (List.mem_cons_of_mem _ hw)
  have hown : s.vm.findClass RX9 = some m.cls := findClass_of_methodNamed B.named
  have hlocks := B.notSynchronized
  have hA : ∀ q, A q → A q := fun _ h => h
  have hS : va_S A s.heap s.heap [] := va_S.rf
  have hS0 := hS
  have hl := lv_entry ([.ref p0, .int x1]) (n := 4) (Nat.le_of_ble_eq_true rfl)
  rw [lg_entry_eq]
  generalize (lg_sl ([.ref p0, .int x1]) ++ List.replicate (4 - (lg_sl ([.ref p0, .int x1])).length) Slot.unset).toArray = ls at hl ⊢
  have hl : lv_has ls 4 [(0, .ref p0), (1, .int x1)] := hl
  have hE : ∀ q : Nat, (q < p0 ∨ p0 + 8 ≤ q) → Ω q = Ω q := by intros; rfl
  generalize hR : (f_X9_readLink p0_1 p0_7 p0_8 p0_9 p0_10 p0_11 p0_12 p0_13 x1) = R
  rw [f_X9_readLink] at hR
  refine lv_aload_n hx hb dX9_readLink_0 rfl (lv_at hl 0 rfl) ?_
  refine lv_aload_n hx hb dX9_readLink_1 rfl (lv_at hl 0 rfl) ?_
  refine o_get hx hb hts hown hK hW (inMod_o h_p0) rfl ig9 11 (by decide) fl_X9_162 rfl dX9_readLink_2 ?_
  refine lv_iconst (v := (1 : Int32)) hx hb dX9_readLink_5 (by decide) ?_
  have J50 : ∀ (s1_1 : Int32) (H : Heap) (locs : List Loc), (s1_1.toInt = 0 ∨ (0 ≤ p0_12.toInt ∧ p0_12.toInt < 6)) → oW G A Ω H → va_S A s.heap H locs → ∀ ls : Array Slot, lv_has ls 4 [(0, .ref p0), (1, .int x1)] → (f_X9_readLink_J50 p0_1 p0_7 p0_8 p0_9 p0_10 p0_11 p0_12 p0_13 x1 s1_1) = R → W p l e (headSpec (wz yX9_readLink cX9_readLink 4 none) ({ frames := 4, cells := 0, slots := 0, locals := 87 } : Room)).room s m ([.ref p0, .int x1] : List Value).toArray below meth c H locs 0 0 (MQ below (va_Qv (fun (Ω1 : Om) => inMod G Ω1 p0 p0_0 (R.1) p0_2 p0_3 p0_4 p0_5 p0_6 p0_7 p0_8 (R.2.1) (R.2.2.1) (R.2.2.2.1) (R.2.2.2.2.1) (R.2.2.2.2.2) ∧ (∀ q : Nat, (q < p0 ∨ p0 + 8 ≤ q) → Ω1 q = Ω q)) (oB G A) A) ([.ref p0, .int x1] : List Value).toArray s 0 0 A) (F0 m 50 ls [.int s1_1, .ref p0]) := by
    intro s1_1 H locs v_50_0 hW hS ls hl hR
    rw [f_X9_readLink_J50] at hR
    refine o_Vi (rest := []) (As := [.int s1_1]) (n := 1) hx hb hml hown hts hK hN hZ hW hS hA (c_X9_must l G A Ω p0 p0_0 p0_1 p0_2 p0_3 p0_4 p0_5 p0_6 p0_7 p0_8 p0_9 p0_10 p0_11 p0_12 p0_13 s1_1 (by omega) (by omega) (by omega) h_p0) (inMod_o h_p0) rfl (good_V ml_X9_175 im_X9_must se_X9_must ini_X9 co_X9_must) (by decide +kernel) ⟨Nat.zero_le _, Nat.zero_le _⟩ hl.1 (Nat.le_of_ble_eq_true rfl) rfl rfl dX9_readLink_50 (fun r Ω_2 H locs hp hW hS => ?_)
    obtain ⟨rfl, h_p0, hF_2⟩ := hp
    have hE : ∀ q : Nat, (q < p0 ∨ p0 + 8 ≤ q) → Ω_2 q = Ω q := fun q g0 => (hF_2 q (by omega)).trans (hE q g0)
    have qm_2 : p0_9.toInt ≤ (f_X9_must p0_7 p0_8 p0_9 p0_10 p0_11 p0_12 p0_13 s1_1).2.1.toInt ∧ (f_X9_must p0_7 p0_8 p0_9 p0_10 p0_11 p0_12 p0_13 s1_1).2.1.toInt ≤ p0_8.toInt := (must_MR hy (by omega) (by omega)).1
    have qa_2 : 0 ≤ (f_X9_must p0_7 p0_8 p0_9 p0_10 p0_11 p0_12 p0_13 s1_1).2.2.1.toInt := (must_MR hy (by omega) (by omega)).2.1
    have qf_2 : (f_X9_must p0_7 p0_8 p0_9 p0_10 p0_11 p0_12 p0_13 s1_1).2.2.2.2.2.toInt ≠ -9 ∨ (p0_13.toInt = -9 ∧ ((f_X9_must p0_7 p0_8 p0_9 p0_10 p0_11 p0_12 p0_13 s1_1).2.2.2.1.toInt = 0 ∨ p0_9.toInt < (f_X9_must p0_7 p0_8 p0_9 p0_10 p0_11 p0_12 p0_13 s1_1).2.1.toInt)) := (must_MR hy (by omega) (by omega)).2.2
    have qs_2 : (f_X9_must p0_7 p0_8 p0_9 p0_10 p0_11 p0_12 p0_13 s1_1).2.2.2.2.2.toInt ≠ -9 ∨ s1_1.toInt ≠ 0 := must_is hy (by omega) (by omega)
    have qi_2 : (f_X9_must p0_7 p0_8 p0_9 p0_10 p0_11 p0_12 p0_13 s1_1).1.toInt = p0_12.toInt := congrArg Int32.toInt must_its
    generalize (f_X9_must p0_7 p0_8 p0_9 p0_10 p0_11 p0_12 p0_13 s1_1) = Z_2 at h_p0 hR qm_2 qa_2 qf_2 qs_2 qi_2 ⊢
    obtain ⟨z2_0, z2_1, z2_2, z2_3, z2_4, z2_5⟩ := Z_2
    dsimp only at h_p0 hR qm_2 qa_2 qf_2 qs_2 qi_2 ⊢
    rw [f_X9_readLink_C53] at hR
    refine lv_istore_n (lv' := [(2, .int z2_0), (0, .ref p0), (1, .int x1)]) hx hb dX9_readLink_53 rfl hl (by decide) rfl (fun ls hl => ?_)
    refine lv_aload_n hx hb dX9_readLink_54 rfl (lv_at hl 1 rfl) ?_
    refine lv_aload_n hx hb dX9_readLink_55 rfl (lv_at hl 1 rfl) ?_
    refine o_get hx hb hts hown hK hW (inMod_o h_p0) rfl ig9 11 (by decide) fl_X9_162 rfl dX9_readLink_56 ?_
    refine lv_iconst (v := (1 : Int32)) hx hb dX9_readLink_59 (by decide) ?_
    have J110 : ∀ (s1_3 : Int32) (H : Heap) (locs : List Loc), (s1_3.toInt = 0 ∨ (0 ≤ z2_4.toInt ∧ z2_4.toInt < 12)) → oW G A Ω_2 H → va_S A s.heap H locs → ∀ ls : Array Slot, lv_has ls 4 [(0, .ref p0), (1, .int x1), (2, .int z2_0)] → (f_X9_readLink_J110 p0_1 p0_7 p0_8 z2_1 z2_2 z2_3 z2_4 z2_5 x1 z2_0 s1_3) = R → W p l e (headSpec (wz yX9_readLink cX9_readLink 4 none) ({ frames := 4, cells := 0, slots := 0, locals := 87 } : Room)).room s m ([.ref p0, .int x1] : List Value).toArray below meth c H locs 0 0 (MQ below (va_Qv (fun (Ω1 : Om) => inMod G Ω1 p0 p0_0 (R.1) p0_2 p0_3 p0_4 p0_5 p0_6 p0_7 p0_8 (R.2.1) (R.2.2.1) (R.2.2.2.1) (R.2.2.2.2.1) (R.2.2.2.2.2) ∧ (∀ q : Nat, (q < p0 ∨ p0 + 8 ≤ q) → Ω1 q = Ω q)) (oB G A) A) ([.ref p0, .int x1] : List Value).toArray s 0 0 A) (F0 m 110 ls [.int s1_3, .ref p0]) := by
      intro s1_3 H locs v_110_0 hW hS ls hl hR
      rw [f_X9_readLink_J110] at hR
      refine o_Vi (rest := []) (As := [.int s1_3]) (n := 1) hx hb hml hown hts hK hN hZ hW hS hA (c_X9_must l G A Ω_2 p0 p0_0 p0_1 p0_2 p0_3 p0_4 p0_5 p0_6 p0_7 p0_8 z2_1 z2_2 z2_3 z2_4 z2_5 s1_3 (by omega) (by omega) (by omega) h_p0) (inMod_o h_p0) rfl (good_V ml_X9_175 im_X9_must se_X9_must ini_X9 co_X9_must) (by decide +kernel) ⟨Nat.zero_le _, Nat.zero_le _⟩ hl.1 (Nat.le_of_ble_eq_true rfl) rfl rfl dX9_readLink_110 (fun r Ω_4 H locs hp hW hS => ?_)
      obtain ⟨rfl, h_p0, hF_4⟩ := hp
      have hE : ∀ q : Nat, (q < p0 ∨ p0 + 8 ≤ q) → Ω_4 q = Ω q := fun q g0 => (hF_4 q (by omega)).trans (hE q g0)
      have qm_4 : z2_1.toInt ≤ (f_X9_must p0_7 p0_8 z2_1 z2_2 z2_3 z2_4 z2_5 s1_3).2.1.toInt ∧ (f_X9_must p0_7 p0_8 z2_1 z2_2 z2_3 z2_4 z2_5 s1_3).2.1.toInt ≤ p0_8.toInt := (must_MR hy (by omega) (by omega)).1
      have qa_4 : 0 ≤ (f_X9_must p0_7 p0_8 z2_1 z2_2 z2_3 z2_4 z2_5 s1_3).2.2.1.toInt := (must_MR hy (by omega) (by omega)).2.1
      have qf_4 : (f_X9_must p0_7 p0_8 z2_1 z2_2 z2_3 z2_4 z2_5 s1_3).2.2.2.2.2.toInt ≠ -9 ∨ (z2_5.toInt = -9 ∧ ((f_X9_must p0_7 p0_8 z2_1 z2_2 z2_3 z2_4 z2_5 s1_3).2.2.2.1.toInt = 0 ∨ z2_1.toInt < (f_X9_must p0_7 p0_8 z2_1 z2_2 z2_3 z2_4 z2_5 s1_3).2.1.toInt)) := (must_MR hy (by omega) (by omega)).2.2
      have qs_4 : (f_X9_must p0_7 p0_8 z2_1 z2_2 z2_3 z2_4 z2_5 s1_3).2.2.2.2.2.toInt ≠ -9 ∨ s1_3.toInt ≠ 0 := must_is hy (by omega) (by omega)
      have qi_4 : (f_X9_must p0_7 p0_8 z2_1 z2_2 z2_3 z2_4 z2_5 s1_3).1.toInt = z2_4.toInt := congrArg Int32.toInt must_its
      generalize (f_X9_must p0_7 p0_8 z2_1 z2_2 z2_3 z2_4 z2_5 s1_3) = Z_4 at h_p0 hR qm_4 qa_4 qf_4 qs_4 qi_4 ⊢
      obtain ⟨z4_0, z4_1, z4_2, z4_3, z4_4, z4_5⟩ := Z_4
      dsimp only at h_p0 hR qm_4 qa_4 qf_4 qs_4 qi_4 ⊢
      rw [f_X9_readLink_C113] at hR
      refine lv_istore_n (lv' := [(3, .int z4_0), (0, .ref p0), (1, .int x1), (2, .int z2_0)]) hx hb dX9_readLink_113 rfl hl (by decide) rfl (fun ls hl => ?_)
      refine lv_aload_n hx hb dX9_readLink_114 rfl (lv_at hl 1 rfl) ?_
      refine o_get hx hb hts hown hK hW (inMod_o h_p0) rfl ig9 13 (by decide) fl_X9_169 rfl dX9_readLink_115 ?_
      refine lv_bipush (v := (-9 : Int32)) hx hb dX9_readLink_118 (by decide) ?_
      have j_6 : (-9 : Int32).toInt = -9 := by decide
      refine lv_icmp_ne (tgt := 132) hx hb dX9_readLink_120 (by decide) (fun c_5 => ?_) (fun c_5 => ?_)
      · rw [if_neg c_5] at hR
        have i_5 := rne c_5
        subst hR
        exact W.vret hx hb hr (fun t ht hW9 => ⟨⟨Ω_4, rfl, ⟨h_p0, hE⟩, by rw [oB, ht]; exact hW⟩, hS.F ht⟩) hS.2.2 dX9_readLink_132
      · rw [if_pos c_5] at hR
        have i_5 := congrArg Int32.toInt c_5
        refine lv_aload_n hx hb dX9_readLink_123 rfl (lv_at hl 1 rfl) ?_
        refine o_get hx hb hts hown hK hW (inMod_o h_p0) rfl ig9 1 (by decide) fl_X9_13 rfl dX9_readLink_124 ?_
        refine lv_iload_n hx hb dX9_readLink_127 rfl (lv_at hl 2 rfl) ?_
        refine lv_iload_n hx hb dX9_readLink_128 rfl (lv_at hl 3 rfl) ?_
        refine lv_iadd hx hb dX9_readLink_129 ?_
        refine lv_iload_n hx hb dX9_readLink_130 rfl (lv_at hl 0 rfl) ?_
        try have j_7 : (x1 + z2_0).toInt = x1.toInt + z2_0.toInt := fb_addI (by omega) (by omega)
        refine wMod_1 hx hb hK hW hS hA h_p0 (vp_in_iff.mpr ⟨by omega, by omega⟩) dX9_readLink_131 (fun Ω_8 H locs h_p0 hF_8 hW hS => ?_)
        have hE : ∀ q : Nat, (q < p0 ∨ p0 + 8 ≤ q) → Ω_8 q = Ω q := fun q g0 => (hF_8 q (by omega)).trans (hE q g0)
        subst hR
        exact W.vret hx hb hr (fun t ht hW9 => ⟨⟨Ω_8, rfl, ⟨h_p0, hE⟩, by rw [oB, ht]; exact hW⟩, hS.F ht⟩) hS.2.2 dX9_readLink_132
    have J109 : ∀ (H : Heap) (locs : List Loc), oW G A Ω_2 H → va_S A s.heap H locs → ∀ ls : Array Slot, lv_has ls 4 [(0, .ref p0), (1, .int x1), (2, .int z2_0)] → (f_X9_readLink_J109 p0_1 p0_7 p0_8 z2_1 z2_2 z2_3 z2_4 z2_5 x1 z2_0) = R → W p l e (headSpec (wz yX9_readLink cX9_readLink 4 none) ({ frames := 4, cells := 0, slots := 0, locals := 87 } : Room)).room s m ([.ref p0, .int x1] : List Value).toArray below meth c H locs 0 0 (MQ below (va_Qv (fun (Ω1 : Om) => inMod G Ω1 p0 p0_0 (R.1) p0_2 p0_3 p0_4 p0_5 p0_6 p0_7 p0_8 (R.2.1) (R.2.2.1) (R.2.2.2.1) (R.2.2.2.2.1) (R.2.2.2.2.2) ∧ (∀ q : Nat, (q < p0 ∨ p0 + 8 ≤ q) → Ω1 q = Ω q)) (oB G A) A) ([.ref p0, .int x1] : List Value).toArray s 0 0 A) (F0 m 109 ls [.ref p0]) := by
      intro H locs hW hS ls hl hR
      rw [f_X9_readLink_J109] at hR
      refine lv_iconst (v := (0 : Int32)) hx hb dX9_readLink_109 (by decide) ?_
      have j_10 : (0 : Int32).toInt = 0 := by decide
      exact J110 (0 : Int32) H locs (by omega) hW hS ls (lv_sub hl [0, 1, 2] rfl) hR
    have j_12 : (1 : Int32).toInt = 1 := by decide
    refine lv_icmp_ne (tgt := 109) hx hb dX9_readLink_60 (by decide) (fun c_11 => ?_) (fun c_11 => ?_)
    · rw [if_neg c_11] at hR
      have i_11 := rne c_11
      exact J109 H locs hW hS ls (lv_sub hl [1, 2, 0] rfl) hR
    · rw [if_pos c_11] at hR
      have i_11 := congrArg Int32.toInt c_11
      refine lv_aload_n hx hb dX9_readLink_63 rfl (lv_at hl 1 rfl) ?_
      refine o_get hx hb hts hown hK hW (inMod_o h_p0) rfl ig9 12 (by decide) fl_X9_159 rfl dX9_readLink_64 ?_
      refine lv_iconst (v := (0 : Int32)) hx hb dX9_readLink_67 (by decide) ?_
      refine lv_aload_n hx hb dX9_readLink_68 rfl (lv_at hl 1 rfl) ?_
      refine o_get hx hb hts hown hK hW (inMod_o h_p0) rfl ig9 1 (by decide) fl_X9_13 rfl dX9_readLink_69 ?_
      refine lv_bipush (v := (91 : Int32)) hx hb dX9_readLink_72 (by decide) ?_
      have j_13 : (91 : Int32).toInt = 91 := by decide
      refine o_iald hx hb hK hW (inMod_a1 h_p0) (vp_in_iff.mpr ⟨by omega, by omega⟩) dX9_readLink_74 ?_
      refine lv_iconst (v := (1 : Int32)) hx hb dX9_readLink_75 (by decide) ?_
      refine lv_isub hx hb dX9_readLink_76 ?_
      have j_14 : (0 : Int32).toInt = 0 := by decide
      try have j_15 : 0 ≤ (p0_1 (91 : Int32).toNatClampNeg).toInt ∧ (p0_1 (91 : Int32).toNatClampNeg).toInt ≤ 12 := DI_91 hD
      try have j_16 : ((p0_1 (91 : Int32).toNatClampNeg) - (1 : Int32)).toInt = (p0_1 (91 : Int32).toNatClampNeg).toInt - (1 : Int32).toInt := fb_subI (by omega) (by omega)
      refine o_SiR (rest := [.ref p0]) (As := [.int z2_4, .int (0 : Int32), .int ((p0_1 (91 : Int32).toNatClampNeg) - (1 : Int32))]) (n := 3) hx hb hml hown hts hK hN hZ hW hS hA (c_X9_in l G A Ω_2 z2_4 (0 : Int32) ((p0_1 (91 : Int32).toNatClampNeg) - (1 : Int32))) ml_X9_39 st_X9_in ini_X9 co_X9_in (by decide +kernel) ⟨Nat.zero_le _, Nat.zero_le _⟩ hl.1 (Nat.le_of_ble_eq_true rfl) rfl rfl dX9_readLink_77 (fun r H locs hp hW hS => ?_)
      obtain ⟨rfl, hz_17⟩ := hp
      refine lv_if_eq (tgt := 109) hx hb dX9_readLink_80 (by decide) (fun c_18 => ?_) (fun c_18 => ?_)
      · rw [if_pos c_18] at hR
        have i_18 := congrArg Int32.toInt c_18
        exact J109 H locs hW hS ls (lv_sub hl [1, 2, 0] rfl) hR
      · rw [if_neg c_18] at hR
        have i_18 := rne c_18
        have b_c_18 := rIN c_18
        refine lv_iload_n hx hb dX9_readLink_83 rfl (lv_at hl 2 rfl) ?_
        refine lv_bipush (v := (6 : Int32)) hx hb dX9_readLink_84 (by decide) ?_
        have J105 : ∀ (H : Heap) (locs : List Loc), oW G A Ω_2 H → va_S A s.heap H locs → ∀ ls : Array Slot, lv_has ls 4 [(0, .ref p0), (1, .int x1), (2, .int z2_0)] → (f_X9_readLink_J105 p0_1 p0_7 p0_8 z2_1 z2_2 z2_3 z2_4 z2_5 x1 z2_0) = R → W p l e (headSpec (wz yX9_readLink cX9_readLink 4 none) ({ frames := 4, cells := 0, slots := 0, locals := 87 } : Room)).room s m ([.ref p0, .int x1] : List Value).toArray below meth c H locs 0 0 (MQ below (va_Qv (fun (Ω1 : Om) => inMod G Ω1 p0 p0_0 (R.1) p0_2 p0_3 p0_4 p0_5 p0_6 p0_7 p0_8 (R.2.1) (R.2.2.1) (R.2.2.2.1) (R.2.2.2.2.1) (R.2.2.2.2.2) ∧ (∀ q : Nat, (q < p0 ∨ p0 + 8 ≤ q) → Ω1 q = Ω q)) (oB G A) A) ([.ref p0, .int x1] : List Value).toArray s 0 0 A) (F0 m 105 ls [.ref p0]) := by
          intro H locs hW hS ls hl hR
          rw [f_X9_readLink_J105] at hR
          refine lv_iconst (v := (1 : Int32)) hx hb dX9_readLink_105 (by decide) ?_
          refine lv_goto (tgt := 110) hx hb dX9_readLink_106 (by decide) ?_
          exact J110 (1 : Int32) H locs (by omega) hW hS ls (lv_sub hl [0, 1, 2] rfl) hR
        have j_21 : (6 : Int32).toInt = 6 := by decide
        refine lv_icmp_eq (tgt := 105) hx hb dX9_readLink_86 (by decide) (fun c_20 => ?_) (fun c_20 => ?_)
        · rw [if_pos c_20] at hR
          have i_20 := congrArg Int32.toInt c_20
          exact J105 H locs hW hS ls (lv_sub hl [1, 2, 0] rfl) hR
        · rw [if_neg c_20] at hR
          have i_20 := rne c_20
          refine lv_aload_n hx hb dX9_readLink_89 rfl (lv_at hl 1 rfl) ?_
          refine o_get hx hb hts hown hK hW (inMod_o h_p0) rfl ig9 1 (by decide) fl_X9_13 rfl dX9_readLink_90 ?_
          refine lv_bipush (v := (18 : Int32)) hx hb dX9_readLink_93 (by decide) ?_
          refine lv_aload_n hx hb dX9_readLink_95 rfl (lv_at hl 1 rfl) ?_
          refine o_get hx hb hts hown hK hW (inMod_o h_p0) rfl ig9 12 (by decide) fl_X9_159 rfl dX9_readLink_96 ?_
          refine lv_iadd hx hb dX9_readLink_99 ?_
          have j_22 : (18 : Int32).toInt = 18 := by decide
          try have j_23 : ((18 : Int32) + z2_4).toInt = (18 : Int32).toInt + z2_4.toInt := fb_addI (by omega) (by omega)
          refine o_iald hx hb hK hW (inMod_a1 h_p0) (vp_in_iff.mpr ⟨by omega, by omega⟩) dX9_readLink_100 ?_
          refine lv_iload_n hx hb dX9_readLink_101 rfl (lv_at hl 0 rfl) ?_
          refine lv_icmp_eq (tgt := 109) hx hb dX9_readLink_102 (by decide) (fun c_24 => ?_) (fun c_24 => ?_)
          · rw [if_pos c_24] at hR
            have i_24 := congrArg Int32.toInt c_24
            exact J109 H locs hW hS ls (lv_sub hl [1, 2, 0] rfl) hR
          · rw [if_neg c_24] at hR
            have i_24 := rne c_24
            exact J105 H locs hW hS ls (lv_sub hl [1, 2, 0] rfl) hR
  have J49 : ∀ (H : Heap) (locs : List Loc), oW G A Ω H → va_S A s.heap H locs → ∀ ls : Array Slot, lv_has ls 4 [(0, .ref p0), (1, .int x1)] → (f_X9_readLink_J49 p0_1 p0_7 p0_8 p0_9 p0_10 p0_11 p0_12 p0_13 x1) = R → W p l e (headSpec (wz yX9_readLink cX9_readLink 4 none) ({ frames := 4, cells := 0, slots := 0, locals := 87 } : Room)).room s m ([.ref p0, .int x1] : List Value).toArray below meth c H locs 0 0 (MQ below (va_Qv (fun (Ω1 : Om) => inMod G Ω1 p0 p0_0 (R.1) p0_2 p0_3 p0_4 p0_5 p0_6 p0_7 p0_8 (R.2.1) (R.2.2.1) (R.2.2.2.1) (R.2.2.2.2.1) (R.2.2.2.2.2) ∧ (∀ q : Nat, (q < p0 ∨ p0 + 8 ≤ q) → Ω1 q = Ω q)) (oB G A) A) ([.ref p0, .int x1] : List Value).toArray s 0 0 A) (F0 m 49 ls [.ref p0]) := by
    intro H locs hW hS ls hl hR
    rw [f_X9_readLink_J49] at hR
    refine lv_iconst (v := (0 : Int32)) hx hb dX9_readLink_49 (by decide) ?_
    have j_26 : (0 : Int32).toInt = 0 := by decide
    exact J50 (0 : Int32) H locs (by omega) hW hS ls (lv_sub hl [0, 1] rfl) hR
  have j_28 : (1 : Int32).toInt = 1 := by decide
  refine lv_icmp_ne (tgt := 49) hx hb dX9_readLink_6 (by decide) (fun c_27 => ?_) (fun c_27 => ?_)
  · rw [if_neg c_27] at hR
    have i_27 := rne c_27
    exact J49 s.heap [] hW hS ls (lv_sub hl [0, 1] rfl) hR
  · rw [if_pos c_27] at hR
    have i_27 := congrArg Int32.toInt c_27
    refine lv_aload_n hx hb dX9_readLink_9 rfl (lv_at hl 0 rfl) ?_
    refine o_get hx hb hts hown hK hW (inMod_o h_p0) rfl ig9 12 (by decide) fl_X9_159 rfl dX9_readLink_10 ?_
    refine lv_iconst (v := (0 : Int32)) hx hb dX9_readLink_13 (by decide) ?_
    refine lv_aload_n hx hb dX9_readLink_14 rfl (lv_at hl 0 rfl) ?_
    refine o_get hx hb hts hown hK hW (inMod_o h_p0) rfl ig9 1 (by decide) fl_X9_13 rfl dX9_readLink_15 ?_
    refine lv_bipush (v := (90 : Int32)) hx hb dX9_readLink_18 (by decide) ?_
    have j_29 : (90 : Int32).toInt = 90 := by decide
    refine o_iald hx hb hK hW (inMod_a1 h_p0) (vp_in_iff.mpr ⟨by omega, by omega⟩) dX9_readLink_20 ?_
    refine lv_iconst (v := (1 : Int32)) hx hb dX9_readLink_21 (by decide) ?_
    refine lv_isub hx hb dX9_readLink_22 ?_
    have j_30 : (0 : Int32).toInt = 0 := by decide
    try have j_31 : 0 ≤ (p0_1 (90 : Int32).toNatClampNeg).toInt ∧ (p0_1 (90 : Int32).toNatClampNeg).toInt ≤ 6 := DI_90 hD
    try have j_32 : ((p0_1 (90 : Int32).toNatClampNeg) - (1 : Int32)).toInt = (p0_1 (90 : Int32).toNatClampNeg).toInt - (1 : Int32).toInt := fb_subI (by omega) (by omega)
    refine o_SiR (rest := [.ref p0]) (As := [.int p0_12, .int (0 : Int32), .int ((p0_1 (90 : Int32).toNatClampNeg) - (1 : Int32))]) (n := 3) hx hb hml hown hts hK hN hZ hW hS hA (c_X9_in l G A Ω p0_12 (0 : Int32) ((p0_1 (90 : Int32).toNatClampNeg) - (1 : Int32))) ml_X9_39 st_X9_in ini_X9 co_X9_in (by decide +kernel) ⟨Nat.zero_le _, Nat.zero_le _⟩ hl.1 (Nat.le_of_ble_eq_true rfl) rfl rfl dX9_readLink_23 (fun r H locs hp hW hS => ?_)
    obtain ⟨rfl, hz_33⟩ := hp
    refine lv_if_eq (tgt := 49) hx hb dX9_readLink_26 (by decide) (fun c_34 => ?_) (fun c_34 => ?_)
    · rw [if_pos c_34] at hR
      have i_34 := congrArg Int32.toInt c_34
      exact J49 H locs hW hS ls (lv_sub hl [0, 1] rfl) hR
    · rw [if_neg c_34] at hR
      have i_34 := rne c_34
      have b_c_34 := rIN c_34
      refine lv_aload_n hx hb dX9_readLink_29 rfl (lv_at hl 0 rfl) ?_
      refine o_get hx hb hts hown hK hW (inMod_o h_p0) rfl ig9 1 (by decide) fl_X9_13 rfl dX9_readLink_30 ?_
      refine lv_iload_n hx hb dX9_readLink_33 rfl (lv_at hl 1 rfl) ?_
      refine lv_aload_n hx hb dX9_readLink_34 rfl (lv_at hl 0 rfl) ?_
      refine o_get hx hb hts hown hK hW (inMod_o h_p0) rfl ig9 12 (by decide) fl_X9_159 rfl dX9_readLink_35 ?_
      refine lv_iadd hx hb dX9_readLink_38 ?_
      try have j_35 : (x1 + p0_12).toInt = x1.toInt + p0_12.toInt := fb_addI (by omega) (by omega)
      refine o_iald hx hb hK hW (inMod_a1 h_p0) (vp_in_iff.mpr ⟨by omega, by omega⟩) dX9_readLink_39 ?_
      refine lv_bipush (v := (-9 : Int32)) hx hb dX9_readLink_40 (by decide) ?_
      have j_37 : (-9 : Int32).toInt = -9 := by decide
      refine lv_icmp_ne (tgt := 49) hx hb dX9_readLink_42 (by decide) (fun c_36 => ?_) (fun c_36 => ?_)
      · rw [if_neg c_36] at hR
        have i_36 := rne c_36
        exact J49 H locs hW hS ls (lv_sub hl [0, 1] rfl) hR
      · rw [if_pos c_36] at hR
        have i_36 := congrArg Int32.toInt c_36
        refine lv_iconst (v := (1 : Int32)) hx hb dX9_readLink_45 (by decide) ?_
        refine lv_goto (tgt := 50) hx hb dX9_readLink_46 (by decide) ?_
        exact J50 (1 : Int32) H locs (by omega) hW hS ls (lv_sub hl [0, 1] rfl) hR
set_option maxHeartbeats 4000000 in
set_option maxRecDepth 100000 in
theorem c_X9_readItem (l : Launch) (G : Gm) (A : Nat → Prop) (Ω : Om) (p0 : Nat) (p0_0 : Fn) (p0_1 : Fn) (p0_2 : Fn) (p0_3 : Fn) (p0_4 : Int32) (p0_5 : Fn) (p0_6 : Fn) (p0_7 : Fn) (p0_8 : Int32) (p0_9 : Int32) (p0_10 : Int32) (p0_11 : Int32) (p0_12 : Int32) (p0_13 : Int32) (hy : 0 ≤ p0_8.toInt ∧ p0_8.toInt ≤ 160) (ha : 0 ≤ p0_9.toInt ∧ p0_9.toInt ≤ p0_8.toInt) (hta : 0 ≤ p0_10.toInt) (hD : DraftInv p0_1) (h_p0 : inMod G Ω p0 p0_0 p0_1 p0_2 p0_3 p0_4 p0_5 p0_6 p0_7 p0_8 p0_9 p0_10 p0_11 p0_12 p0_13) : Met l yX9_readItem (wz yX9_readItem cX9_readItem 3 none) ({ frames := 6, cells := 0, slots := 0, locals := 136 } : Room) (va_Pc [.ref p0] (oS G A Ω)) (va_Qv (fun (Ω1 : Om) => inMod G Ω1 p0 p0_0 ((f_X9_readItem p0_1 p0_7 p0_8 p0_9 p0_10 p0_11 p0_12 p0_13).1) p0_2 p0_3 p0_4 p0_5 p0_6 p0_7 p0_8 ((f_X9_readItem p0_1 p0_7 p0_8 p0_9 p0_10 p0_11 p0_12 p0_13).2.1) ((f_X9_readItem p0_1 p0_7 p0_8 p0_9 p0_10 p0_11 p0_12 p0_13).2.2.1) ((f_X9_readItem p0_1 p0_7 p0_8 p0_9 p0_10 p0_11 p0_12 p0_13).2.2.2.1) ((f_X9_readItem p0_1 p0_7 p0_8 p0_9 p0_10 p0_11 p0_12 p0_13).2.2.2.2.1) ((f_X9_readItem p0_1 p0_7 p0_8 p0_9 p0_10 p0_11 p0_12 p0_13).2.2.2.2.2) ∧ (∀ q : Nat, (q < p0 ∨ p0 + 8 ≤ q) → Ω1 q = Ω q)) (oB G A) A) 0 0 A := by
  refine Met.ofW (cc := cX9_readItem) (maxL := 3) (ret := none) (by decide) rfl ?_
  intro p e s m args below meth c s₁ B hml hv
  obtain ⟨rfl, hW, hK, hN, hZ⟩ := hv
  have hx := B.exec
  have hb := B.bytes
  have hr := B.returns
  have hts : ∀ w ∈ gt, w.before _ s = true := fun w hw => atoms_spec (ws := wz yX9_readItem cX9_readItem 3 none) B.pre w (List.mem_cons_of_mem _ hw)
  have hown : s.vm.findClass RX9 = some m.cls := findClass_of_methodNamed B.named
  have hlocks := B.notSynchronized
  have hA : ∀ q, A q → A q := fun _ h => h
  have hS : va_S A s.heap s.heap [] := va_S.rf
  have hS0 := hS
  have hl := lv_entry ([.ref p0]) (n := 3) (Nat.le_of_ble_eq_true rfl)
  rw [lg_entry_eq]
  generalize (lg_sl ([.ref p0]) ++ List.replicate (3 - (lg_sl ([.ref p0])).length) Slot.unset).toArray = ls at hl ⊢
  have hl : lv_has ls 3 [(0, .ref p0)] := hl
  have hE : ∀ q : Nat, (q < p0 ∨ p0 + 8 ≤ q) → Ω q = Ω q := by intros; rfl
  generalize hR : (f_X9_readItem p0_1 p0_7 p0_8 p0_9 p0_10 p0_11 p0_12 p0_13) = R
  rw [f_X9_readItem] at hR
  refine lv_aload_n hx hb dX9_readItem_0 rfl (lv_at hl 0 rfl) ?_
  refine o_get hx hb hts hown hK hW (inMod_o h_p0) rfl ig9 11 (by decide) fl_X9_162 rfl dX9_readItem_1 ?_
  refine lv_iconst (v := (4 : Int32)) hx hb dX9_readItem_4 (by decide) ?_
  have J16 : ∀ (s0_1 : Int32) (H : Heap) (locs : List Loc), oW G A Ω H → va_S A s.heap H locs → ∀ ls : Array Slot, lv_has ls 3 [(0, .ref p0)] → (f_X9_readItem_J16 p0_1 p0_7 p0_8 p0_9 p0_10 p0_11 p0_12 p0_13 s0_1) = R → W p l e (headSpec (wz yX9_readItem cX9_readItem 3 none) ({ frames := 6, cells := 0, slots := 0, locals := 136 } : Room)).room s m ([.ref p0] : List Value).toArray below meth c H locs 0 0 (MQ below (va_Qv (fun (Ω1 : Om) => inMod G Ω1 p0 p0_0 (R.1) p0_2 p0_3 p0_4 p0_5 p0_6 p0_7 p0_8 (R.2.1) (R.2.2.1) (R.2.2.2.1) (R.2.2.2.2.1) (R.2.2.2.2.2) ∧ (∀ q : Nat, (q < p0 ∨ p0 + 8 ≤ q) → Ω1 q = Ω q)) (oB G A) A) ([.ref p0] : List Value).toArray s 0 0 A) (F0 m 16 ls [.int s0_1]) := by
    intro s0_1 H locs hW hS ls hl hR
    rw [f_X9_readItem_J16] at hR
    refine lv_istore_n (lv' := [(1, .int s0_1), (0, .ref p0)]) hx hb dX9_readItem_16 rfl hl (by decide) rfl (fun ls hl => ?_)
    refine lv_aload_n hx hb dX9_readItem_17 rfl (lv_at hl 1 rfl) ?_
    refine o_get hx hb hts hown hK hW (inMod_o h_p0) rfl ig9 1 (by decide) fl_X9_13 rfl dX9_readItem_18 ?_
    refine lv_bipush (v := (90 : Int32)) hx hb dX9_readItem_21 (by decide) ?_
    have j_2 : (90 : Int32).toInt = 90 := by decide
    refine o_iald hx hb hK hW (inMod_a1 h_p0) (vp_in_iff.mpr ⟨by omega, by omega⟩) dX9_readItem_23 ?_
    have J32 : ∀ (s0_3 : Int32) (H : Heap) (locs : List Loc), (s0_3.toInt = 0 ∨ 1 ≤ (p0_1 (90 : Int32).toNatClampNeg).toInt) → oW G A Ω H → va_S A s.heap H locs → ∀ ls : Array Slot, lv_has ls 3 [(0, .ref p0), (1, .int s0_1)] → (f_X9_readItem_J32 p0_1 p0_7 p0_8 p0_9 p0_10 p0_11 p0_12 p0_13 s0_1 s0_3) = R → W p l e (headSpec (wz yX9_readItem cX9_readItem 3 none) ({ frames := 6, cells := 0, slots := 0, locals := 136 } : Room)).room s m ([.ref p0] : List Value).toArray below meth c H locs 0 0 (MQ below (va_Qv (fun (Ω1 : Om) => inMod G Ω1 p0 p0_0 (R.1) p0_2 p0_3 p0_4 p0_5 p0_6 p0_7 p0_8 (R.2.1) (R.2.2.1) (R.2.2.2.1) (R.2.2.2.2.1) (R.2.2.2.2.2) ∧ (∀ q : Nat, (q < p0 ∨ p0 + 8 ≤ q) → Ω1 q = Ω q)) (oB G A) A) ([.ref p0] : List Value).toArray s 0 0 A) (F0 m 32 ls [.int s0_3]) := by
      intro s0_3 H locs v_32_0 hW hS ls hl hR
      rw [f_X9_readItem_J32] at hR
      refine lv_istore_n (lv' := [(2, .int s0_3), (0, .ref p0), (1, .int s0_1)]) hx hb dX9_readItem_32 rfl hl (by decide) rfl (fun ls hl => ?_)
      refine lv_aload_n hx hb dX9_readItem_33 rfl (lv_at hl 1 rfl) ?_
      refine lv_iload_n hx hb dX9_readItem_34 rfl (lv_at hl 2 rfl) ?_
      refine lv_bipush (v := (114 : Int32)) hx hb dX9_readItem_35 (by decide) ?_
      have J112 : ∀ (s1_4 : Int32) (H : Heap) (locs : List Loc), (s1_4.toInt = 0 ∨ ((s0_1.toInt ≠ 114 ∨ (p0_1 (90 : Int32).toNatClampNeg).toInt < 6) ∧ (s0_1.toInt ≠ 102 ∨ ((p0_1 (91 : Int32).toNatClampNeg).toInt < 12 ∧ 1 ≤ (p0_1 (90 : Int32).toNatClampNeg).toInt)) ∧ (s0_1.toInt ≠ 97 ∨ (p0_1 (92 : Int32).toNatClampNeg).toInt < 4))) → oW G A Ω H → va_S A s.heap H locs → ∀ ls : Array Slot, lv_has ls 3 [(0, .ref p0), (1, .int s0_1)] → (f_X9_readItem_J112 p0_1 p0_7 p0_8 p0_9 p0_10 p0_11 p0_12 p0_13 s0_1 s1_4) = R → W p l e (headSpec (wz yX9_readItem cX9_readItem 3 none) ({ frames := 6, cells := 0, slots := 0, locals := 136 } : Room)).room s m ([.ref p0] : List Value).toArray below meth c H locs 0 0 (MQ below (va_Qv (fun (Ω1 : Om) => inMod G Ω1 p0 p0_0 (R.1) p0_2 p0_3 p0_4 p0_5 p0_6 p0_7 p0_8 (R.2.1) (R.2.2.1) (R.2.2.2.1) (R.2.2.2.2.1) (R.2.2.2.2.2) ∧ (∀ q : Nat, (q < p0 ∨ p0 + 8 ≤ q) → Ω1 q = Ω q)) (oB G A) A) ([.ref p0] : List Value).toArray s 0 0 A) (F0 m 112 ls [.int s1_4, .ref p0]) := by
        intro s1_4 H locs v_112_0 hW hS ls hl hR
        rw [f_X9_readItem_J112] at hR
        refine o_Vi (rest := []) (As := [.int s1_4]) (n := 1) hx hb hml hown hts hK hN hZ hW hS hA (c_X9_must l G A Ω p0 p0_0 p0_1 p0_2 p0_3 p0_4 p0_5 p0_6 p0_7 p0_8 p0_9 p0_10 p0_11 p0_12 p0_13 s1_4 (by omega) (by omega) (by omega) h_p0) (inMod_o h_p0) rfl (good_V ml_X9_175 im_X9_must se_X9_must ini_X9 co_X9_must) (by decide +kernel) ⟨Nat.zero_le _, Nat.zero_le _⟩ hl.1 (Nat.le_of_ble_eq_true rfl) rfl rfl dX9_readItem_112 (fun r Ω_5 H locs hp hW hS => ?_)
        obtain ⟨rfl, h_p0, hF_5⟩ := hp
        have hE : ∀ q : Nat, (q < p0 ∨ p0 + 8 ≤ q) → Ω_5 q = Ω q := fun q g0 => (hF_5 q (by omega)).trans (hE q g0)
        have qm_5 : p0_9.toInt ≤ (f_X9_must p0_7 p0_8 p0_9 p0_10 p0_11 p0_12 p0_13 s1_4).2.1.toInt ∧ (f_X9_must p0_7 p0_8 p0_9 p0_10 p0_11 p0_12 p0_13 s1_4).2.1.toInt ≤ p0_8.toInt := (must_MR hy (by omega) (by omega)).1
        have qa_5 : 0 ≤ (f_X9_must p0_7 p0_8 p0_9 p0_10 p0_11 p0_12 p0_13 s1_4).2.2.1.toInt := (must_MR hy (by omega) (by omega)).2.1
        have qf_5 : (f_X9_must p0_7 p0_8 p0_9 p0_10 p0_11 p0_12 p0_13 s1_4).2.2.2.2.2.toInt ≠ -9 ∨ (p0_13.toInt = -9 ∧ ((f_X9_must p0_7 p0_8 p0_9 p0_10 p0_11 p0_12 p0_13 s1_4).2.2.2.1.toInt = 0 ∨ p0_9.toInt < (f_X9_must p0_7 p0_8 p0_9 p0_10 p0_11 p0_12 p0_13 s1_4).2.1.toInt)) := (must_MR hy (by omega) (by omega)).2.2
        have qs_5 : (f_X9_must p0_7 p0_8 p0_9 p0_10 p0_11 p0_12 p0_13 s1_4).2.2.2.2.2.toInt ≠ -9 ∨ s1_4.toInt ≠ 0 := must_is hy (by omega) (by omega)
        have qi_5 : (f_X9_must p0_7 p0_8 p0_9 p0_10 p0_11 p0_12 p0_13 s1_4).1.toInt = p0_12.toInt := congrArg Int32.toInt must_its
        generalize (f_X9_must p0_7 p0_8 p0_9 p0_10 p0_11 p0_12 p0_13 s1_4) = Z_5 at h_p0 hR qm_5 qa_5 qf_5 qs_5 qi_5 ⊢
        obtain ⟨z5_0, z5_1, z5_2, z5_3, z5_4, z5_5⟩ := Z_5
        dsimp only at h_p0 hR qm_5 qa_5 qf_5 qs_5 qi_5 ⊢
        rw [f_X9_readItem_C115] at hR
        refine lv_pop hx hb dX9_readItem_115 rfl ?_
        refine lv_aload_n hx hb dX9_readItem_116 rfl (lv_at hl 0 rfl) ?_
        refine o_get hx hb hts hown hK hW (inMod_o h_p0) rfl ig9 13 (by decide) fl_X9_169 rfl dX9_readItem_117 ?_
        refine lv_bipush (v := (-9 : Int32)) hx hb dX9_readItem_120 (by decide) ?_
        have j_7 : (-9 : Int32).toInt = -9 := by decide
        refine lv_icmp_eq (tgt := 126) hx hb dX9_readItem_122 (by decide) (fun c_6 => ?_) (fun c_6 => ?_)
        · rw [if_pos c_6] at hR
          have i_6 := congrArg Int32.toInt c_6
          refine lv_iload_n hx hb dX9_readItem_126 rfl (lv_at hl 1 rfl) ?_
          refine lv_bipush (v := (114 : Int32)) hx hb dX9_readItem_127 (by decide) ?_
          have J182 : ∀ (p0_1_8 : Fn) (p0_9_8 : Int32) (p0_10_8 : Int32) (p0_11_8 : Int32) (p0_12_8 : Int32) (p0_13_8 : Int32) (Ω_9 : Om) (H : Heap) (locs : List Loc), (0 ≤ p0_9_8.toInt ∧ p0_9_8.toInt ≤ p0_8.toInt) → (0 ≤ p0_10_8.toInt) → (DraftInv p0_1_8) → inMod G Ω_9 p0 p0_0 p0_1_8 p0_2 p0_3 p0_4 p0_5 p0_6 p0_7 p0_8 p0_9_8 p0_10_8 p0_11_8 p0_12_8 p0_13_8 → (∀ q : Nat, (q < p0 ∨ p0 + 8 ≤ q) → Ω_9 q = Ω q) → oW G A Ω_9 H → va_S A s.heap H locs → ∀ ls : Array Slot, lv_has ls 3 [(0, .ref p0)] → (f_X9_readItem_J182 p0_7 p0_8 p0_1_8 p0_9_8 p0_10_8 p0_11_8 p0_12_8 p0_13_8) = R → W p l e (headSpec (wz yX9_readItem cX9_readItem 3 none) ({ frames := 6, cells := 0, slots := 0, locals := 136 } : Room)).room s m ([.ref p0] : List Value).toArray below meth c H locs 0 0 (MQ below (va_Qv (fun (Ω1 : Om) => inMod G Ω1 p0 p0_0 (R.1) p0_2 p0_3 p0_4 p0_5 p0_6 p0_7 p0_8 (R.2.1) (R.2.2.1) (R.2.2.2.1) (R.2.2.2.2.1) (R.2.2.2.2.2) ∧ (∀ q : Nat, (q < p0 ∨ p0 + 8 ≤ q) → Ω1 q = Ω q)) (oB G A) A) ([.ref p0] : List Value).toArray s 0 0 A) (F0 m 182 ls []) := by
            intro p0_1_8 p0_9_8 p0_10_8 p0_11_8 p0_12_8 p0_13_8 Ω_9 H locs v_182_0 v_182_1 v_182_2 h_p0 hE hW hS ls hl hR
            rw [f_X9_readItem_J182] at hR
            refine lv_aload_n hx hb dX9_readItem_182 rfl (lv_at hl 0 rfl) ?_
            refine lv_aload_n hx hb dX9_readItem_183 rfl (lv_at hl 0 rfl) ?_
            refine o_get hx hb hts hown hK hW (inMod_o h_p0) rfl ig9 11 (by decide) fl_X9_162 rfl dX9_readItem_184 ?_
            refine lv_iconst (v := (3 : Int32)) hx hb dX9_readItem_187 (by decide) ?_
            have J196 : ∀ (s1_10 : Int32) (H : Heap) (locs : List Loc), oW G A Ω_9 H → va_S A s.heap H locs → ∀ ls : Array Slot, lv_has ls 3 [] → (f_X9_readItem_J196 p0_1_8 p0_7 p0_8 p0_9_8 p0_10_8 p0_11_8 p0_12_8 p0_13_8 s1_10) = R → W p l e (headSpec (wz yX9_readItem cX9_readItem 3 none) ({ frames := 6, cells := 0, slots := 0, locals := 136 } : Room)).room s m ([.ref p0] : List Value).toArray below meth c H locs 0 0 (MQ below (va_Qv (fun (Ω1 : Om) => inMod G Ω1 p0 p0_0 (R.1) p0_2 p0_3 p0_4 p0_5 p0_6 p0_7 p0_8 (R.2.1) (R.2.2.1) (R.2.2.2.1) (R.2.2.2.2.1) (R.2.2.2.2.2) ∧ (∀ q : Nat, (q < p0 ∨ p0 + 8 ≤ q) → Ω1 q = Ω q)) (oB G A) A) ([.ref p0] : List Value).toArray s 0 0 A) (F0 m 196 ls [.int s1_10, .ref p0]) := by
              intro s1_10 H locs hW hS ls hl hR
              rw [f_X9_readItem_J196] at hR
              refine o_Vi (rest := []) (As := [.int s1_10]) (n := 1) hx hb hml hown hts hK hN hZ hW hS hA (c_X9_must l G A Ω_9 p0 p0_0 p0_1_8 p0_2 p0_3 p0_4 p0_5 p0_6 p0_7 p0_8 p0_9_8 p0_10_8 p0_11_8 p0_12_8 p0_13_8 s1_10 (by omega) (by omega) (by omega) h_p0) (inMod_o h_p0) rfl (good_V ml_X9_175 im_X9_must se_X9_must ini_X9 co_X9_must) (by decide +kernel) ⟨Nat.zero_le _, Nat.zero_le _⟩ hl.1 (Nat.le_of_ble_eq_true rfl) rfl rfl dX9_readItem_196 (fun r Ω_11 H locs hp hW hS => ?_)
              obtain ⟨rfl, h_p0, hF_11⟩ := hp
              have hE : ∀ q : Nat, (q < p0 ∨ p0 + 8 ≤ q) → Ω_11 q = Ω q := fun q g0 => (hF_11 q (by omega)).trans (hE q g0)
              have qm_11 : p0_9_8.toInt ≤ (f_X9_must p0_7 p0_8 p0_9_8 p0_10_8 p0_11_8 p0_12_8 p0_13_8 s1_10).2.1.toInt ∧ (f_X9_must p0_7 p0_8 p0_9_8 p0_10_8 p0_11_8 p0_12_8 p0_13_8 s1_10).2.1.toInt ≤ p0_8.toInt := (must_MR hy (by omega) (by omega)).1
              have qa_11 : 0 ≤ (f_X9_must p0_7 p0_8 p0_9_8 p0_10_8 p0_11_8 p0_12_8 p0_13_8 s1_10).2.2.1.toInt := (must_MR hy (by omega) (by omega)).2.1
              have qf_11 : (f_X9_must p0_7 p0_8 p0_9_8 p0_10_8 p0_11_8 p0_12_8 p0_13_8 s1_10).2.2.2.2.2.toInt ≠ -9 ∨ (p0_13_8.toInt = -9 ∧ ((f_X9_must p0_7 p0_8 p0_9_8 p0_10_8 p0_11_8 p0_12_8 p0_13_8 s1_10).2.2.2.1.toInt = 0 ∨ p0_9_8.toInt < (f_X9_must p0_7 p0_8 p0_9_8 p0_10_8 p0_11_8 p0_12_8 p0_13_8 s1_10).2.1.toInt)) := (must_MR hy (by omega) (by omega)).2.2
              have qs_11 : (f_X9_must p0_7 p0_8 p0_9_8 p0_10_8 p0_11_8 p0_12_8 p0_13_8 s1_10).2.2.2.2.2.toInt ≠ -9 ∨ s1_10.toInt ≠ 0 := must_is hy (by omega) (by omega)
              have qi_11 : (f_X9_must p0_7 p0_8 p0_9_8 p0_10_8 p0_11_8 p0_12_8 p0_13_8 s1_10).1.toInt = p0_12_8.toInt := congrArg Int32.toInt must_its
              generalize (f_X9_must p0_7 p0_8 p0_9_8 p0_10_8 p0_11_8 p0_12_8 p0_13_8 s1_10) = Z_11 at h_p0 hR qm_11 qa_11 qf_11 qs_11 qi_11 ⊢
              obtain ⟨z11_0, z11_1, z11_2, z11_3, z11_4, z11_5⟩ := Z_11
              dsimp only at h_p0 hR qm_11 qa_11 qf_11 qs_11 qi_11 ⊢
              rw [f_X9_readItem_C199] at hR
              refine lv_pop hx hb dX9_readItem_199 rfl ?_
              subst hR
              exact W.vret hx hb hr (fun t ht hW9 => ⟨⟨Ω_11, rfl, ⟨h_p0, hE⟩, by rw [oB, ht]; exact hW⟩, hS.F ht⟩) hS.2.2 dX9_readItem_200
            have j_13 : (3 : Int32).toInt = 3 := by decide
            refine lv_icmp_ne (tgt := 195) hx hb dX9_readItem_188 (by decide) (fun c_12 => ?_) (fun c_12 => ?_)
            · rw [if_neg c_12] at hR
              have i_12 := rne c_12
              refine lv_iconst (v := (0 : Int32)) hx hb dX9_readItem_195 (by decide) ?_
              have j_14 : (0 : Int32).toInt = 0 := by decide
              exact J196 (0 : Int32) H locs hW hS ls (lv_sub hl [] rfl) hR
            · rw [if_pos c_12] at hR
              have i_12 := congrArg Int32.toInt c_12
              refine lv_iconst (v := (1 : Int32)) hx hb dX9_readItem_191 (by decide) ?_
              refine lv_goto (tgt := 196) hx hb dX9_readItem_192 (by decide) ?_
              have j_15 : (1 : Int32).toInt = 1 := by decide
              exact J196 (1 : Int32) H locs hW hS ls (lv_sub hl [] rfl) hR
          have j_17 : (114 : Int32).toInt = 114 := by decide
          refine lv_icmp_ne (tgt := 139) hx hb dX9_readItem_129 (by decide) (fun c_16 => ?_) (fun c_16 => ?_)
          · rw [if_neg c_16] at hR
            have i_16 := rne c_16
            refine lv_iload_n hx hb dX9_readItem_139 rfl (lv_at hl 1 rfl) ?_
            refine lv_bipush (v := (102 : Int32)) hx hb dX9_readItem_140 (by decide) ?_
            have j_19 : (102 : Int32).toInt = 102 := by decide
            refine lv_icmp_ne (tgt := 152) hx hb dX9_readItem_142 (by decide) (fun c_18 => ?_) (fun c_18 => ?_)
            · rw [if_neg c_18] at hR
              have i_18 := rne c_18
              refine lv_iload_n hx hb dX9_readItem_152 rfl (lv_at hl 1 rfl) ?_
              refine lv_bipush (v := (97 : Int32)) hx hb dX9_readItem_153 (by decide) ?_
              have j_21 : (97 : Int32).toInt = 97 := by decide
              refine lv_icmp_ne (tgt := 165) hx hb dX9_readItem_155 (by decide) (fun c_20 => ?_) (fun c_20 => ?_)
              · rw [if_neg c_20] at hR
                have i_20 := rne c_20
                refine lv_aload_n hx hb dX9_readItem_165 rfl (lv_at hl 0 rfl) ?_
                refine lv_iload_n hx hb dX9_readItem_166 rfl (lv_at hl 1 rfl) ?_
                refine lv_bipush (v := (107 : Int32)) hx hb dX9_readItem_167 (by decide) ?_
                have J179 : ∀ (s1_22 : Int32) (H : Heap) (locs : List Loc), (s1_22.toInt = 6 ∨ s1_22.toInt = 12) → oW G A Ω_5 H → va_S A s.heap H locs → ∀ ls : Array Slot, lv_has ls 3 [(0, .ref p0)] → (f_X9_readItem_J179 p0_1 p0_7 p0_8 z5_1 z5_2 z5_3 z5_4 z5_5 s1_22) = R → W p l e (headSpec (wz yX9_readItem cX9_readItem 3 none) ({ frames := 6, cells := 0, slots := 0, locals := 136 } : Room)).room s m ([.ref p0] : List Value).toArray below meth c H locs 0 0 (MQ below (va_Qv (fun (Ω1 : Om) => inMod G Ω1 p0 p0_0 (R.1) p0_2 p0_3 p0_4 p0_5 p0_6 p0_7 p0_8 (R.2.1) (R.2.2.1) (R.2.2.2.1) (R.2.2.2.2.1) (R.2.2.2.2.2) ∧ (∀ q : Nat, (q < p0 ∨ p0 + 8 ≤ q) → Ω1 q = Ω q)) (oB G A) A) ([.ref p0] : List Value).toArray s 0 0 A) (F0 m 179 ls [.int s1_22, .ref p0]) := by
                  intro s1_22 H locs v_179_0 hW hS ls hl hR
                  rw [f_X9_readItem_J179] at hR
                  refine o_Vv (rest := []) (As := [.int s1_22]) (n := 1) hx hb hml hown hts hK hN hZ hW hS hA (c_X9_readLink l G A Ω_5 p0 p0_0 p0_1 p0_2 p0_3 p0_4 p0_5 p0_6 p0_7 p0_8 z5_1 z5_2 z5_3 z5_4 z5_5 s1_22 (by omega) (by omega) (by omega) (by assumption) (by omega) h_p0) (inMod_o h_p0) rfl (good_V ml_X9_194 im_X9_readLink se_X9_readLink ini_X9 co_X9_readLink) (by decide +kernel) ⟨Nat.zero_le _, Nat.zero_le _⟩ hl.1 (Nat.le_of_ble_eq_true rfl) rfl rfl dX9_readItem_179 (fun Ω_23 H locs hp hW hS => ?_)
                  obtain ⟨h_p0, hF_23⟩ := hp
                  have hE : ∀ q : Nat, (q < p0 ∨ p0 + 8 ≤ q) → Ω_23 q = Ω q := fun q g0 => (hF_23 q (by omega)).trans (hE q g0)
                  try have qd_23 : DraftInv (f_X9_readLink p0_1 p0_7 p0_8 z5_1 z5_2 z5_3 z5_4 z5_5 s1_22).1 := (RM_readLink (by assumption) (by omega) hy (by omega) (by omega)).1
                  try have qm_23 : z5_1.toInt ≤ (f_X9_readLink p0_1 p0_7 p0_8 z5_1 z5_2 z5_3 z5_4 z5_5 s1_22).2.1.toInt ∧ (f_X9_readLink p0_1 p0_7 p0_8 z5_1 z5_2 z5_3 z5_4 z5_5 s1_22).2.1.toInt ≤ p0_8.toInt := (RM_readLink (by assumption) (by omega) hy (by omega) (by omega)).2.1
                  try have qa_23 : 0 ≤ (f_X9_readLink p0_1 p0_7 p0_8 z5_1 z5_2 z5_3 z5_4 z5_5 s1_22).2.2.1.toInt := (RM_readLink (by assumption) (by omega) hy (by omega) (by omega)).2.2.1
                  try have qf_23 : (f_X9_readLink p0_1 p0_7 p0_8 z5_1 z5_2 z5_3 z5_4 z5_5 s1_22).2.2.2.2.2.toInt ≠ -9 ∨ (z5_5.toInt = -9 ∧ ((f_X9_readLink p0_1 p0_7 p0_8 z5_1 z5_2 z5_3 z5_4 z5_5 s1_22).2.2.2.1.toInt = 0 ∨ z5_1.toInt < (f_X9_readLink p0_1 p0_7 p0_8 z5_1 z5_2 z5_3 z5_4 z5_5 s1_22).2.1.toInt)) := (RM_readLink (by assumption) (by omega) hy (by omega) (by omega)).2.2.2
                  exact J182 ((f_X9_readLink p0_1 p0_7 p0_8 z5_1 z5_2 z5_3 z5_4 z5_5 s1_22).1) ((f_X9_readLink p0_1 p0_7 p0_8 z5_1 z5_2 z5_3 z5_4 z5_5 s1_22).2.1) ((f_X9_readLink p0_1 p0_7 p0_8 z5_1 z5_2 z5_3 z5_4 z5_5 s1_22).2.2.1) ((f_X9_readLink p0_1 p0_7 p0_8 z5_1 z5_2 z5_3 z5_4 z5_5 s1_22).2.2.2.1) ((f_X9_readLink p0_1 p0_7 p0_8 z5_1 z5_2 z5_3 z5_4 z5_5 s1_22).2.2.2.2.1) ((f_X9_readLink p0_1 p0_7 p0_8 z5_1 z5_2 z5_3 z5_4 z5_5 s1_22).2.2.2.2.2) Ω_23 H locs (by omega) (by omega) (by assumption) h_p0 hE hW hS ls (lv_sub hl [0] rfl) hR
                have j_25 : (107 : Int32).toInt = 107 := by decide
                refine lv_icmp_ne (tgt := 177) hx hb dX9_readItem_169 (by decide) (fun c_24 => ?_) (fun c_24 => ?_)
                · rw [if_neg c_24] at hR
                  have i_24 := rne c_24
                  refine lv_bipush (v := (12 : Int32)) hx hb dX9_readItem_177 (by decide) ?_
                  have j_26 : (12 : Int32).toInt = 12 := by decide
                  exact J179 (12 : Int32) H locs (by omega) hW hS ls (lv_sub hl [0] rfl) hR
                · rw [if_pos c_24] at hR
                  have i_24 := congrArg Int32.toInt c_24
                  refine lv_bipush (v := (6 : Int32)) hx hb dX9_readItem_172 (by decide) ?_
                  refine lv_goto (tgt := 179) hx hb dX9_readItem_174 (by decide) ?_
                  have j_27 : (6 : Int32).toInt = 6 := by decide
                  exact J179 (6 : Int32) H locs (by omega) hW hS ls (lv_sub hl [0] rfl) hR
              · rw [if_pos c_20] at hR
                have i_20 := congrArg Int32.toInt c_20
                refine lv_aload_n hx hb dX9_readItem_158 rfl (lv_at hl 0 rfl) ?_
                refine o_Vv (rest := []) (As := []) (n := 0) hx hb hml hown hts hK hN hZ hW hS hA (c_X9_readAlias l G A Ω_5 p0 p0_0 p0_1 p0_2 p0_3 p0_4 p0_5 p0_6 p0_7 p0_8 z5_1 z5_2 z5_3 z5_4 z5_5 (by omega) (by omega) (by omega) (by assumption) (by omega) h_p0) (inMod_o h_p0) rfl (good_V ml_X9_191 im_X9_readAlias se_X9_readAlias ini_X9 co_X9_readAlias) (by decide +kernel) ⟨Nat.zero_le _, Nat.zero_le _⟩ hl.1 (Nat.le_of_ble_eq_true rfl) rfl rfl dX9_readItem_159 (fun Ω_28 H locs hp hW hS => ?_)
                obtain ⟨h_p0, hF_28⟩ := hp
                have hE : ∀ q : Nat, (q < p0 ∨ p0 + 8 ≤ q) → Ω_28 q = Ω q := fun q g0 => (hF_28 q (by omega)).trans (hE q g0)
                have qd_28 : DraftInv (f_X9_readAlias p0_1 p0_7 p0_8 z5_1 z5_2 z5_3 z5_4 z5_5).1 := (RM_readAlias (by assumption) (by omega) hy (by omega) (by omega)).1
                have qm_28 : z5_1.toInt ≤ (f_X9_readAlias p0_1 p0_7 p0_8 z5_1 z5_2 z5_3 z5_4 z5_5).2.1.toInt ∧ (f_X9_readAlias p0_1 p0_7 p0_8 z5_1 z5_2 z5_3 z5_4 z5_5).2.1.toInt ≤ p0_8.toInt := (RM_readAlias (by assumption) (by omega) hy (by omega) (by omega)).2.1
                have qa_28 : 0 ≤ (f_X9_readAlias p0_1 p0_7 p0_8 z5_1 z5_2 z5_3 z5_4 z5_5).2.2.1.toInt := (RM_readAlias (by assumption) (by omega) hy (by omega) (by omega)).2.2.1
                have qf_28 : (f_X9_readAlias p0_1 p0_7 p0_8 z5_1 z5_2 z5_3 z5_4 z5_5).2.2.2.2.2.toInt ≠ -9 ∨ (z5_5.toInt = -9 ∧ ((f_X9_readAlias p0_1 p0_7 p0_8 z5_1 z5_2 z5_3 z5_4 z5_5).2.2.2.1.toInt = 0 ∨ z5_1.toInt < (f_X9_readAlias p0_1 p0_7 p0_8 z5_1 z5_2 z5_3 z5_4 z5_5).2.1.toInt)) := (RM_readAlias (by assumption) (by omega) hy (by omega) (by omega)).2.2.2
                generalize (f_X9_readAlias p0_1 p0_7 p0_8 z5_1 z5_2 z5_3 z5_4 z5_5) = Z_28 at h_p0 hR qd_28 qm_28 qa_28 qf_28
                obtain ⟨z28_0, z28_1, z28_2, z28_3, z28_4, z28_5⟩ := Z_28
                dsimp only at h_p0 hR qd_28 qm_28 qa_28 qf_28
                rw [f_X9_readItem_C162] at hR
                refine lv_goto (tgt := 182) hx hb dX9_readItem_162 (by decide) ?_
                exact J182 z28_0 z28_1 z28_2 z28_3 z28_4 z28_5 Ω_28 H locs (by omega) (by omega) (by assumption) h_p0 hE hW hS ls (lv_sub hl [0] rfl) hR
            · rw [if_pos c_18] at hR
              have i_18 := congrArg Int32.toInt c_18
              refine lv_aload_n hx hb dX9_readItem_145 rfl (lv_at hl 0 rfl) ?_
              refine o_Vv (rest := []) (As := []) (n := 0) hx hb hml hown hts hK hN hZ hW hS hA (c_X9_readField l G A Ω_5 p0 p0_0 p0_1 p0_2 p0_3 p0_4 p0_5 p0_6 p0_7 p0_8 z5_1 z5_2 z5_3 z5_4 z5_5 (by omega) (by omega) (by omega) (by assumption) (by omega) (by omega) h_p0) (inMod_o h_p0) rfl (good_V ml_X9_188 im_X9_readField se_X9_readField ini_X9 co_X9_readField) (by decide +kernel) ⟨Nat.zero_le _, Nat.zero_le _⟩ hl.1 (Nat.le_of_ble_eq_true rfl) rfl rfl dX9_readItem_146 (fun Ω_29 H locs hp hW hS => ?_)
              obtain ⟨h_p0, hF_29⟩ := hp
              have hE : ∀ q : Nat, (q < p0 ∨ p0 + 8 ≤ q) → Ω_29 q = Ω q := fun q g0 => (hF_29 q (by omega)).trans (hE q g0)
              have qd_29 : DraftInv (f_X9_readField p0_1 p0_7 p0_8 z5_1 z5_2 z5_3 z5_4 z5_5).1 := (RM_readField (by assumption) (by omega) (by omega) hy (by omega) (by omega)).1
              have qm_29 : z5_1.toInt ≤ (f_X9_readField p0_1 p0_7 p0_8 z5_1 z5_2 z5_3 z5_4 z5_5).2.1.toInt ∧ (f_X9_readField p0_1 p0_7 p0_8 z5_1 z5_2 z5_3 z5_4 z5_5).2.1.toInt ≤ p0_8.toInt := (RM_readField (by assumption) (by omega) (by omega) hy (by omega) (by omega)).2.1
              have qa_29 : 0 ≤ (f_X9_readField p0_1 p0_7 p0_8 z5_1 z5_2 z5_3 z5_4 z5_5).2.2.1.toInt := (RM_readField (by assumption) (by omega) (by omega) hy (by omega) (by omega)).2.2.1
              have qf_29 : (f_X9_readField p0_1 p0_7 p0_8 z5_1 z5_2 z5_3 z5_4 z5_5).2.2.2.2.2.toInt ≠ -9 ∨ (z5_5.toInt = -9 ∧ ((f_X9_readField p0_1 p0_7 p0_8 z5_1 z5_2 z5_3 z5_4 z5_5).2.2.2.1.toInt = 0 ∨ z5_1.toInt < (f_X9_readField p0_1 p0_7 p0_8 z5_1 z5_2 z5_3 z5_4 z5_5).2.1.toInt)) := (RM_readField (by assumption) (by omega) (by omega) hy (by omega) (by omega)).2.2.2
              generalize (f_X9_readField p0_1 p0_7 p0_8 z5_1 z5_2 z5_3 z5_4 z5_5) = Z_29 at h_p0 hR qd_29 qm_29 qa_29 qf_29
              obtain ⟨z29_0, z29_1, z29_2, z29_3, z29_4, z29_5⟩ := Z_29
              dsimp only at h_p0 hR qd_29 qm_29 qa_29 qf_29
              rw [f_X9_readItem_C149] at hR
              refine lv_goto (tgt := 182) hx hb dX9_readItem_149 (by decide) ?_
              exact J182 z29_0 z29_1 z29_2 z29_3 z29_4 z29_5 Ω_29 H locs (by omega) (by omega) (by assumption) h_p0 hE hW hS ls (lv_sub hl [0] rfl) hR
          · rw [if_pos c_16] at hR
            have i_16 := congrArg Int32.toInt c_16
            refine lv_aload_n hx hb dX9_readItem_132 rfl (lv_at hl 0 rfl) ?_
            refine o_Vv (rest := []) (As := []) (n := 0) hx hb hml hown hts hK hN hZ hW hS hA (c_X9_readRegister l G A Ω_5 p0 p0_0 p0_1 p0_2 p0_3 p0_4 p0_5 p0_6 p0_7 p0_8 z5_1 z5_2 z5_3 z5_4 z5_5 (by omega) (by omega) (by omega) (by assumption) (by omega) h_p0) (inMod_o h_p0) rfl (good_V ml_X9_185 im_X9_readRegister se_X9_readRegister ini_X9 co_X9_readRegister) (by decide +kernel) ⟨Nat.zero_le _, Nat.zero_le _⟩ hl.1 (Nat.le_of_ble_eq_true rfl) rfl rfl dX9_readItem_133 (fun Ω_30 H locs hp hW hS => ?_)
            obtain ⟨h_p0, hF_30⟩ := hp
            have hE : ∀ q : Nat, (q < p0 ∨ p0 + 8 ≤ q) → Ω_30 q = Ω q := fun q g0 => (hF_30 q (by omega)).trans (hE q g0)
            have qd_30 : DraftInv (f_X9_readRegister p0_1 p0_7 p0_8 z5_1 z5_2 z5_3 z5_4 z5_5).1 := (RM_readRegister (by assumption) (by omega) hy (by omega) (by omega)).1
            have qm_30 : z5_1.toInt ≤ (f_X9_readRegister p0_1 p0_7 p0_8 z5_1 z5_2 z5_3 z5_4 z5_5).2.1.toInt ∧ (f_X9_readRegister p0_1 p0_7 p0_8 z5_1 z5_2 z5_3 z5_4 z5_5).2.1.toInt ≤ p0_8.toInt := (RM_readRegister (by assumption) (by omega) hy (by omega) (by omega)).2.1
            have qa_30 : 0 ≤ (f_X9_readRegister p0_1 p0_7 p0_8 z5_1 z5_2 z5_3 z5_4 z5_5).2.2.1.toInt := (RM_readRegister (by assumption) (by omega) hy (by omega) (by omega)).2.2.1
            have qf_30 : (f_X9_readRegister p0_1 p0_7 p0_8 z5_1 z5_2 z5_3 z5_4 z5_5).2.2.2.2.2.toInt ≠ -9 ∨ (z5_5.toInt = -9 ∧ ((f_X9_readRegister p0_1 p0_7 p0_8 z5_1 z5_2 z5_3 z5_4 z5_5).2.2.2.1.toInt = 0 ∨ z5_1.toInt < (f_X9_readRegister p0_1 p0_7 p0_8 z5_1 z5_2 z5_3 z5_4 z5_5).2.1.toInt)) := (RM_readRegister (by assumption) (by omega) hy (by omega) (by omega)).2.2.2
            generalize (f_X9_readRegister p0_1 p0_7 p0_8 z5_1 z5_2 z5_3 z5_4 z5_5) = Z_30 at h_p0 hR qd_30 qm_30 qa_30 qf_30
            obtain ⟨z30_0, z30_1, z30_2, z30_3, z30_4, z30_5⟩ := Z_30
            dsimp only at h_p0 hR qd_30 qm_30 qa_30 qf_30
            rw [f_X9_readItem_C136] at hR
            refine lv_goto (tgt := 182) hx hb dX9_readItem_136 (by decide) ?_
            exact J182 z30_0 z30_1 z30_2 z30_3 z30_4 z30_5 Ω_30 H locs (by omega) (by omega) (by assumption) h_p0 hE hW hS ls (lv_sub hl [0] rfl) hR
        · rw [if_neg c_6] at hR
          have i_6 := rne c_6
          subst hR
          exact W.vret hx hb hr (fun t ht hW9 => ⟨⟨Ω_5, rfl, ⟨h_p0, hE⟩, by rw [oB, ht]; exact hW⟩, hS.F ht⟩) hS.2.2 dX9_readItem_125
      have J107 : ∀ (H : Heap) (locs : List Loc), ((s0_1.toInt ≠ 114 ∨ (p0_1 (90 : Int32).toNatClampNeg).toInt < 6) ∧ (s0_1.toInt ≠ 102 ∨ ((p0_1 (91 : Int32).toNatClampNeg).toInt < 12 ∧ 1 ≤ (p0_1 (90 : Int32).toNatClampNeg).toInt)) ∧ (s0_1.toInt ≠ 97 ∨ (p0_1 (92 : Int32).toNatClampNeg).toInt < 4)) → oW G A Ω H → va_S A s.heap H locs → ∀ ls : Array Slot, lv_has ls 3 [(0, .ref p0), (1, .int s0_1)] → (f_X9_readItem_J107 p0_1 p0_7 p0_8 p0_9 p0_10 p0_11 p0_12 p0_13 s0_1) = R → W p l e (headSpec (wz yX9_readItem cX9_readItem 3 none) ({ frames := 6, cells := 0, slots := 0, locals := 136 } : Room)).room s m ([.ref p0] : List Value).toArray below meth c H locs 0 0 (MQ below (va_Qv (fun (Ω1 : Om) => inMod G Ω1 p0 p0_0 (R.1) p0_2 p0_3 p0_4 p0_5 p0_6 p0_7 p0_8 (R.2.1) (R.2.2.1) (R.2.2.2.1) (R.2.2.2.2.1) (R.2.2.2.2.2) ∧ (∀ q : Nat, (q < p0 ∨ p0 + 8 ≤ q) → Ω1 q = Ω q)) (oB G A) A) ([.ref p0] : List Value).toArray s 0 0 A) (F0 m 107 ls [.ref p0]) := by
        intro H locs v_107_0 hW hS ls hl hR
        rw [f_X9_readItem_J107] at hR
        refine lv_iconst (v := (1 : Int32)) hx hb dX9_readItem_107 (by decide) ?_
        refine lv_goto (tgt := 112) hx hb dX9_readItem_108 (by decide) ?_
        have j_32 : (1 : Int32).toInt = 1 := by decide
        exact J112 (1 : Int32) H locs (by omega) hW hS ls (lv_sub hl [0, 1] rfl) hR
      have J52 : ∀ (H : Heap) (locs : List Loc), oW G A Ω H → va_S A s.heap H locs → ∀ ls : Array Slot, lv_has ls 3 [(0, .ref p0), (1, .int s0_1), (2, .int s0_3)] → (f_X9_readItem_J52 p0_1 p0_7 p0_8 p0_9 p0_10 p0_11 p0_12 p0_13 s0_1 s0_3) = R → W p l e (headSpec (wz yX9_readItem cX9_readItem 3 none) ({ frames := 6, cells := 0, slots := 0, locals := 136 } : Room)).room s m ([.ref p0] : List Value).toArray below meth c H locs 0 0 (MQ below (va_Qv (fun (Ω1 : Om) => inMod G Ω1 p0 p0_0 (R.1) p0_2 p0_3 p0_4 p0_5 p0_6 p0_7 p0_8 (R.2.1) (R.2.2.1) (R.2.2.2.1) (R.2.2.2.2.1) (R.2.2.2.2.2) ∧ (∀ q : Nat, (q < p0 ∨ p0 + 8 ≤ q) → Ω1 q = Ω q)) (oB G A) A) ([.ref p0] : List Value).toArray s 0 0 A) (F0 m 52 ls [.ref p0]) := by
        intro H locs hW hS ls hl hR
        rw [f_X9_readItem_J52] at hR
        refine lv_iload_n hx hb dX9_readItem_52 rfl (lv_at hl 1 rfl) ?_
        refine lv_bipush (v := (102 : Int32)) hx hb dX9_readItem_53 (by decide) ?_
        have J74 : ∀ (H : Heap) (locs : List Loc), oW G A Ω H → va_S A s.heap H locs → ∀ ls : Array Slot, lv_has ls 3 [(0, .ref p0), (1, .int s0_1), (2, .int s0_3)] → (f_X9_readItem_J74 p0_1 p0_7 p0_8 p0_9 p0_10 p0_11 p0_12 p0_13 s0_1 s0_3) = R → W p l e (headSpec (wz yX9_readItem cX9_readItem 3 none) ({ frames := 6, cells := 0, slots := 0, locals := 136 } : Room)).room s m ([.ref p0] : List Value).toArray below meth c H locs 0 0 (MQ below (va_Qv (fun (Ω1 : Om) => inMod G Ω1 p0 p0_0 (R.1) p0_2 p0_3 p0_4 p0_5 p0_6 p0_7 p0_8 (R.2.1) (R.2.2.1) (R.2.2.2.1) (R.2.2.2.2.1) (R.2.2.2.2.2) ∧ (∀ q : Nat, (q < p0 ∨ p0 + 8 ≤ q) → Ω1 q = Ω q)) (oB G A) A) ([.ref p0] : List Value).toArray s 0 0 A) (F0 m 74 ls [.ref p0]) := by
          intro H locs hW hS ls hl hR
          rw [f_X9_readItem_J74] at hR
          refine lv_iload_n hx hb dX9_readItem_74 rfl (lv_at hl 1 rfl) ?_
          refine lv_bipush (v := (97 : Int32)) hx hb dX9_readItem_75 (by decide) ?_
          have J91 : ∀ (H : Heap) (locs : List Loc), oW G A Ω H → va_S A s.heap H locs → ∀ ls : Array Slot, lv_has ls 3 [(0, .ref p0), (1, .int s0_1), (2, .int s0_3)] → (f_X9_readItem_J91 p0_1 p0_7 p0_8 p0_9 p0_10 p0_11 p0_12 p0_13 s0_1 s0_3) = R → W p l e (headSpec (wz yX9_readItem cX9_readItem 3 none) ({ frames := 6, cells := 0, slots := 0, locals := 136 } : Room)).room s m ([.ref p0] : List Value).toArray below meth c H locs 0 0 (MQ below (va_Qv (fun (Ω1 : Om) => inMod G Ω1 p0 p0_0 (R.1) p0_2 p0_3 p0_4 p0_5 p0_6 p0_7 p0_8 (R.2.1) (R.2.2.1) (R.2.2.2.1) (R.2.2.2.2.1) (R.2.2.2.2.2) ∧ (∀ q : Nat, (q < p0 ∨ p0 + 8 ≤ q) → Ω1 q = Ω q)) (oB G A) A) ([.ref p0] : List Value).toArray s 0 0 A) (F0 m 91 ls [.ref p0]) := by
            intro H locs hW hS ls hl hR
            rw [f_X9_readItem_J91] at hR
            refine lv_iload_n hx hb dX9_readItem_91 rfl (lv_at hl 1 rfl) ?_
            refine lv_bipush (v := (107 : Int32)) hx hb dX9_readItem_92 (by decide) ?_
            have J111 : ∀ (H : Heap) (locs : List Loc), oW G A Ω H → va_S A s.heap H locs → ∀ ls : Array Slot, lv_has ls 3 [(0, .ref p0), (1, .int s0_1)] → (f_X9_readItem_J111 p0_1 p0_7 p0_8 p0_9 p0_10 p0_11 p0_12 p0_13 s0_1) = R → W p l e (headSpec (wz yX9_readItem cX9_readItem 3 none) ({ frames := 6, cells := 0, slots := 0, locals := 136 } : Room)).room s m ([.ref p0] : List Value).toArray below meth c H locs 0 0 (MQ below (va_Qv (fun (Ω1 : Om) => inMod G Ω1 p0 p0_0 (R.1) p0_2 p0_3 p0_4 p0_5 p0_6 p0_7 p0_8 (R.2.1) (R.2.2.1) (R.2.2.2.1) (R.2.2.2.2.1) (R.2.2.2.2.2) ∧ (∀ q : Nat, (q < p0 ∨ p0 + 8 ≤ q) → Ω1 q = Ω q)) (oB G A) A) ([.ref p0] : List Value).toArray s 0 0 A) (F0 m 111 ls [.ref p0]) := by
              intro H locs hW hS ls hl hR
              rw [f_X9_readItem_J111] at hR
              refine lv_iconst (v := (0 : Int32)) hx hb dX9_readItem_111 (by decide) ?_
              have j_37 : (0 : Int32).toInt = 0 := by decide
              exact J112 (0 : Int32) H locs (by omega) hW hS ls (lv_sub hl [0, 1] rfl) hR
            have J103 : ∀ (H : Heap) (locs : List Loc), (s0_1.toInt = 107 ∨ s0_1.toInt = 115) → oW G A Ω H → va_S A s.heap H locs → ∀ ls : Array Slot, lv_has ls 3 [(0, .ref p0), (1, .int s0_1), (2, .int s0_3)] → (f_X9_readItem_J103 p0_1 p0_7 p0_8 p0_9 p0_10 p0_11 p0_12 p0_13 s0_1 s0_3) = R → W p l e (headSpec (wz yX9_readItem cX9_readItem 3 none) ({ frames := 6, cells := 0, slots := 0, locals := 136 } : Room)).room s m ([.ref p0] : List Value).toArray below meth c H locs 0 0 (MQ below (va_Qv (fun (Ω1 : Om) => inMod G Ω1 p0 p0_0 (R.1) p0_2 p0_3 p0_4 p0_5 p0_6 p0_7 p0_8 (R.2.1) (R.2.2.1) (R.2.2.2.1) (R.2.2.2.2.1) (R.2.2.2.2.2) ∧ (∀ q : Nat, (q < p0 ∨ p0 + 8 ≤ q) → Ω1 q = Ω q)) (oB G A) A) ([.ref p0] : List Value).toArray s 0 0 A) (F0 m 103 ls [.ref p0]) := by
              intro H locs v_103_0 hW hS ls hl hR
              rw [f_X9_readItem_J103] at hR
              refine lv_iload_n hx hb dX9_readItem_103 rfl (lv_at hl 2 rfl) ?_
              have j_40 : (0 : Int32).toInt = 0 := by decide
              refine lv_if_eq (tgt := 111) hx hb dX9_readItem_104 (by decide) (fun c_39 => ?_) (fun c_39 => ?_)
              · rw [if_pos c_39] at hR
                have i_39 := congrArg Int32.toInt c_39
                exact J111 H locs hW hS ls (lv_sub hl [0, 1] rfl) hR
              · rw [if_neg c_39] at hR
                have i_39 := rne c_39
                exact J107 H locs (by omega) hW hS ls (lv_sub hl [0, 1] rfl) hR
            have j_42 : (107 : Int32).toInt = 107 := by decide
            refine lv_icmp_eq (tgt := 103) hx hb dX9_readItem_94 (by decide) (fun c_41 => ?_) (fun c_41 => ?_)
            · rw [if_pos c_41] at hR
              have i_41 := congrArg Int32.toInt c_41
              exact J103 H locs (by omega) hW hS ls (lv_sub hl [0, 1, 2] rfl) hR
            · rw [if_neg c_41] at hR
              have i_41 := rne c_41
              refine lv_iload_n hx hb dX9_readItem_97 rfl (lv_at hl 1 rfl) ?_
              refine lv_bipush (v := (115 : Int32)) hx hb dX9_readItem_98 (by decide) ?_
              have j_44 : (115 : Int32).toInt = 115 := by decide
              refine lv_icmp_ne (tgt := 111) hx hb dX9_readItem_100 (by decide) (fun c_43 => ?_) (fun c_43 => ?_)
              · rw [if_neg c_43] at hR
                have i_43 := rne c_43
                exact J111 H locs hW hS ls (lv_sub hl [0, 1] rfl) hR
              · rw [if_pos c_43] at hR
                have i_43 := congrArg Int32.toInt c_43
                exact J103 H locs (by omega) hW hS ls (lv_sub hl [0, 1, 2] rfl) hR
          have j_46 : (97 : Int32).toInt = 97 := by decide
          refine lv_icmp_ne (tgt := 91) hx hb dX9_readItem_77 (by decide) (fun c_45 => ?_) (fun c_45 => ?_)
          · rw [if_neg c_45] at hR
            have i_45 := rne c_45
            exact J91 H locs hW hS ls (lv_sub hl [0, 1, 2] rfl) hR
          · rw [if_pos c_45] at hR
            have i_45 := congrArg Int32.toInt c_45
            refine lv_aload_n hx hb dX9_readItem_80 rfl (lv_at hl 0 rfl) ?_
            refine o_get hx hb hts hown hK hW (inMod_o h_p0) rfl ig9 1 (by decide) fl_X9_13 rfl dX9_readItem_81 ?_
            refine lv_bipush (v := (92 : Int32)) hx hb dX9_readItem_84 (by decide) ?_
            have j_47 : (92 : Int32).toInt = 92 := by decide
            refine o_iald hx hb hK hW (inMod_a1 h_p0) (vp_in_iff.mpr ⟨by omega, by omega⟩) dX9_readItem_86 ?_
            refine lv_iconst (v := (4 : Int32)) hx hb dX9_readItem_87 (by decide) ?_
            try have j_49 : 0 ≤ (p0_1 (92 : Int32).toNatClampNeg).toInt ∧ (p0_1 (92 : Int32).toNatClampNeg).toInt ≤ 4 := DI_92 hD
            have j_50 : (4 : Int32).toInt = 4 := by decide
            refine lv_icmp_lt (tgt := 107) hx hb dX9_readItem_88 (by decide) (fun c_48 => ?_) (fun c_48 => ?_)
            · rw [if_pos c_48] at hR
              have i_48 := rlt c_48
              exact J107 H locs (by omega) hW hS ls (lv_sub hl [0, 1] rfl) hR
            · rw [if_neg c_48] at hR
              have i_48 := rnlt c_48
              exact J91 H locs hW hS ls (lv_sub hl [0, 1, 2] rfl) hR
        have j_52 : (102 : Int32).toInt = 102 := by decide
        refine lv_icmp_ne (tgt := 74) hx hb dX9_readItem_55 (by decide) (fun c_51 => ?_) (fun c_51 => ?_)
        · rw [if_neg c_51] at hR
          have i_51 := rne c_51
          exact J74 H locs hW hS ls (lv_sub hl [0, 1, 2] rfl) hR
        · rw [if_pos c_51] at hR
          have i_51 := congrArg Int32.toInt c_51
          refine lv_iload_n hx hb dX9_readItem_58 rfl (lv_at hl 2 rfl) ?_
          have j_54 : (0 : Int32).toInt = 0 := by decide
          refine lv_if_eq (tgt := 74) hx hb dX9_readItem_59 (by decide) (fun c_53 => ?_) (fun c_53 => ?_)
          · rw [if_pos c_53] at hR
            have i_53 := congrArg Int32.toInt c_53
            exact J74 H locs hW hS ls (lv_sub hl [0, 1, 2] rfl) hR
          · rw [if_neg c_53] at hR
            have i_53 := rne c_53
            refine lv_aload_n hx hb dX9_readItem_62 rfl (lv_at hl 0 rfl) ?_
            refine o_get hx hb hts hown hK hW (inMod_o h_p0) rfl ig9 1 (by decide) fl_X9_13 rfl dX9_readItem_63 ?_
            refine lv_bipush (v := (91 : Int32)) hx hb dX9_readItem_66 (by decide) ?_
            have j_55 : (91 : Int32).toInt = 91 := by decide
            refine o_iald hx hb hK hW (inMod_a1 h_p0) (vp_in_iff.mpr ⟨by omega, by omega⟩) dX9_readItem_68 ?_
            refine lv_bipush (v := (12 : Int32)) hx hb dX9_readItem_69 (by decide) ?_
            try have j_57 : 0 ≤ (p0_1 (91 : Int32).toNatClampNeg).toInt ∧ (p0_1 (91 : Int32).toNatClampNeg).toInt ≤ 12 := DI_91 hD
            have j_58 : (12 : Int32).toInt = 12 := by decide
            refine lv_icmp_lt (tgt := 107) hx hb dX9_readItem_71 (by decide) (fun c_56 => ?_) (fun c_56 => ?_)
            · rw [if_pos c_56] at hR
              have i_56 := rlt c_56
              exact J107 H locs (by omega) hW hS ls (lv_sub hl [0, 1] rfl) hR
            · rw [if_neg c_56] at hR
              have i_56 := rnlt c_56
              exact J74 H locs hW hS ls (lv_sub hl [0, 1, 2] rfl) hR
      have j_60 : (114 : Int32).toInt = 114 := by decide
      refine lv_icmp_ne (tgt := 52) hx hb dX9_readItem_37 (by decide) (fun c_59 => ?_) (fun c_59 => ?_)
      · rw [if_neg c_59] at hR
        have i_59 := rne c_59
        exact J52 H locs hW hS ls (lv_sub hl [1, 2, 0] rfl) hR
      · rw [if_pos c_59] at hR
        have i_59 := congrArg Int32.toInt c_59
        refine lv_aload_n hx hb dX9_readItem_40 rfl (lv_at hl 1 rfl) ?_
        refine o_get hx hb hts hown hK hW (inMod_o h_p0) rfl ig9 1 (by decide) fl_X9_13 rfl dX9_readItem_41 ?_
        refine lv_bipush (v := (90 : Int32)) hx hb dX9_readItem_44 (by decide) ?_
        refine o_iald hx hb hK hW (inMod_a1 h_p0) (vp_in_iff.mpr ⟨by omega, by omega⟩) dX9_readItem_46 ?_
        refine lv_bipush (v := (6 : Int32)) hx hb dX9_readItem_47 (by decide) ?_
        try have j_62 : 0 ≤ (p0_1 (90 : Int32).toNatClampNeg).toInt ∧ (p0_1 (90 : Int32).toNatClampNeg).toInt ≤ 6 := DI_90 hD
        have j_63 : (6 : Int32).toInt = 6 := by decide
        refine lv_icmp_lt (tgt := 107) hx hb dX9_readItem_49 (by decide) (fun c_61 => ?_) (fun c_61 => ?_)
        · rw [if_pos c_61] at hR
          have i_61 := rlt c_61
          exact J107 H locs (by omega) hW hS ls (lv_sub hl [1, 2] rfl) hR
        · rw [if_neg c_61] at hR
          have i_61 := rnlt c_61
          exact J52 H locs hW hS ls (lv_sub hl [1, 2, 0] rfl) hR
    try have j_65 : 0 ≤ (p0_1 (90 : Int32).toNatClampNeg).toInt ∧ (p0_1 (90 : Int32).toNatClampNeg).toInt ≤ 6 := DI_90 hD
    have j_66 : (0 : Int32).toInt = 0 := by decide
    refine lv_if_le (tgt := 31) hx hb dX9_readItem_24 (by decide) (fun c_64 => ?_) (fun c_64 => ?_)
    · rw [if_pos c_64] at hR
      have i_64 := rle c_64
      refine lv_iconst (v := (0 : Int32)) hx hb dX9_readItem_31 (by decide) ?_
      exact J32 (0 : Int32) H locs (by omega) hW hS ls (lv_sub hl [1, 0] rfl) hR
    · rw [if_neg c_64] at hR
      have i_64 := rnle c_64
      refine lv_iconst (v := (1 : Int32)) hx hb dX9_readItem_27 (by decide) ?_
      refine lv_goto (tgt := 32) hx hb dX9_readItem_28 (by decide) ?_
      have j_67 : (1 : Int32).toInt = 1 := by decide
      exact J32 (1 : Int32) H locs (by omega) hW hS ls (lv_sub hl [1, 0] rfl) hR
  have j_69 : (4 : Int32).toInt = 4 := by decide
  refine lv_icmp_ne (tgt := 15) hx hb dX9_readItem_5 (by decide) (fun c_68 => ?_) (fun c_68 => ?_)
  · rw [if_neg c_68] at hR
    have i_68 := rne c_68
    refine lv_iconst (v := (0 : Int32)) hx hb dX9_readItem_15 (by decide) ?_
    have j_70 : (0 : Int32).toInt = 0 := by decide
    exact J16 (0 : Int32) s.heap [] hW hS ls (lv_sub hl [0] rfl) hR
  · rw [if_pos c_68] at hR
    have i_68 := congrArg Int32.toInt c_68
    refine lv_aload_n hx hb dX9_readItem_8 rfl (lv_at hl 0 rfl) ?_
    refine o_get hx hb hts hown hK hW (inMod_o h_p0) rfl ig9 12 (by decide) fl_X9_159 rfl dX9_readItem_9 ?_
    refine lv_goto (tgt := 16) hx hb dX9_readItem_12 (by decide) ?_
    exact J16 p0_12 s.heap [] hW hS ls (lv_sub hl [0] rfl) hR
set_option maxHeartbeats 4000000 in
set_option maxRecDepth 100000 in
theorem c_X9_tells (l : Launch) (G : Gm) (A : Nat → Prop) (Ω : Om) (p0 : Nat) (p0_0 : Fn) (p0_1 : Fn) (p0_2 : Fn) (p0_3 : Fn) (p0_4 : Int32) (p0_5 : Fn) (p0_6 : Fn) (p0_7 : Fn) (p0_8 : Int32) (p0_9 : Int32) (p0_10 : Int32) (p0_11 : Int32) (p0_12 : Int32) (p0_13 : Int32) (hy : 0 ≤ p0_8.toInt ∧ p0_8.toInt ≤ 160) (h_p0 : inMod G Ω p0 p0_0 p0_1 p0_2 p0_3 p0_4 p0_5 p0_6 p0_7 p0_8 p0_9 p0_10 p0_11 p0_12 p0_13) : Met l yX9_tells (wz yX9_tells cX9_tells 3 (some .int)) ({ frames := 7, cells := 0, slots := 0, locals := 158 } : Room) (va_Pc [.ref p0] (oS G A Ω)) (va_Qi (fun (r : Int32) (Ω1 : Om) => r = (f_X9_tells p0_0 p0_1 p0_2 p0_4 p0_6 p0_7 p0_8).1 ∧ inMod G Ω1 p0 ((f_X9_tells p0_0 p0_1 p0_2 p0_4 p0_6 p0_7 p0_8).2.1) ((f_X9_tells p0_0 p0_1 p0_2 p0_4 p0_6 p0_7 p0_8).2.2.1) ((f_X9_tells p0_0 p0_1 p0_2 p0_4 p0_6 p0_7 p0_8).2.2.2.1) p0_3 ((f_X9_tells p0_0 p0_1 p0_2 p0_4 p0_6 p0_7 p0_8).2.2.2.2.1) p0_5 ((f_X9_tells p0_0 p0_1 p0_2 p0_4 p0_6 p0_7 p0_8).2.2.2.2.2.1) p0_7 ((f_X9_tells p0_0 p0_1 p0_2 p0_4 p0_6 p0_7 p0_8).2.2.2.2.2.2.1) ((f_X9_tells p0_0 p0_1 p0_2 p0_4 p0_6 p0_7 p0_8).2.2.2.2.2.2.2.1) ((f_X9_tells p0_0 p0_1 p0_2 p0_4 p0_6 p0_7 p0_8).2.2.2.2.2.2.2.2.1) ((f_X9_tells p0_0 p0_1 p0_2 p0_4 p0_6 p0_7 p0_8).2.2.2.2.2.2.2.2.2.1) ((f_X9_tells p0_0 p0_1 p0_2 p0_4 p0_6 p0_7 p0_8).2.2.2.2.2.2.2.2.2.2.1) ((f_X9_tells p0_0 p0_1 p0_2 p0_4 p0_6 p0_7 p0_8).2.2.2.2.2.2.2.2.2.2.2) ∧ (∀ q : Nat, (q < p0 ∨ p0 + 8 ≤ q) → Ω1 q = Ω q)) (oB G A) A) 0 0 A := by
  refine Met.ofW (cc := cX9_tells) (maxL := 3) (ret := (some .int)) (by decide) rfl ?_
  intro p e s m args below meth c s₁ B hml hv
  obtain ⟨rfl, hW, hK, hN, hZ⟩ := hv
  have hx := B.exec
  have hb := B.bytes
  have hr := B.returns
  have hts : ∀ w ∈ gt, w.before _ s = true := fun w hw => atoms_spec (ws := wz yX9_tells cX9_tells 3 (some .int)) B.pre w (List.mem_cons_of_mem _ hw)
  have hown : s.vm.findClass RX9 = some m.cls := findClass_of_methodNamed B.named
  have hlocks := B.notSynchronized
  have hA : ∀ q, A q → A q := fun _ h => h
  have hS : va_S A s.heap s.heap [] := va_S.rf
  have hS0 := hS
  have hl := lv_entry ([.ref p0]) (n := 3) (Nat.le_of_ble_eq_true rfl)
  rw [lg_entry_eq]
  generalize (lg_sl ([.ref p0]) ++ List.replicate (3 - (lg_sl ([.ref p0])).length) Slot.unset).toArray = ls at hl ⊢
  have hl : lv_has ls 3 [(0, .ref p0)] := hl
  have hE : ∀ q : Nat, (q < p0 ∨ p0 + 8 ≤ q) → Ω q = Ω q := by intros; rfl
  generalize hR : (f_X9_tells p0_0 p0_1 p0_2 p0_4 p0_6 p0_7 p0_8) = R
  rw [f_X9_tells] at hR
  refine lv_iconst (v := (0 : Int32)) hx hb dX9_tells_0 (by decide) ?_
  refine lv_istore_n (lv' := [(1, .int (0 : Int32)), (0, .ref p0)]) hx hb dX9_tells_1 rfl hl (by decide) rfl (fun ls hl => ?_)
  have L2 : ∀ (n_2 : Nat) (x1_1 : Int32) (p0_1_1 : Fn) (Ω_3 : Om) (H : Heap) (locs : List Loc), (0 ≤ x1_1.toInt ∧ x1_1.toInt ≤ 93 ∧ 93 - x1_1.toInt < n_2) → (∀ j : Nat, (j : Int) < x1_1.toInt → p0_1_1 j = 0) → inMod G Ω_3 p0 p0_0 p0_1_1 p0_2 p0_3 p0_4 p0_5 p0_6 p0_7 p0_8 p0_9 p0_10 p0_11 p0_12 p0_13 → (∀ q : Nat, (q < p0 ∨ p0 + 8 ≤ q) → Ω_3 q = Ω q) → oW G A Ω_3 H → va_S A s.heap H locs → ∀ ls : Array Slot, lv_has ls 3 [(0, .ref p0), (1, .int x1_1)] → (f_X9_tells_L2 p0_0 p0_2 p0_4 p0_6 p0_7 p0_8 n_2 x1_1 p0_1_1) = R → W p l e (headSpec (wz yX9_tells cX9_tells 3 (some .int)) ({ frames := 7, cells := 0, slots := 0, locals := 158 } : Room)).room s m ([.ref p0] : List Value).toArray below meth c H locs 0 0 (MQ below (va_Qi (fun (r : Int32) (Ω1 : Om) => r = R.1 ∧ inMod G Ω1 p0 (R.2.1) (R.2.2.1) (R.2.2.2.1) p0_3 (R.2.2.2.2.1) p0_5 (R.2.2.2.2.2.1) p0_7 (R.2.2.2.2.2.2.1) (R.2.2.2.2.2.2.2.1) (R.2.2.2.2.2.2.2.2.1) (R.2.2.2.2.2.2.2.2.2.1) (R.2.2.2.2.2.2.2.2.2.2.1) (R.2.2.2.2.2.2.2.2.2.2.2) ∧ (∀ q : Nat, (q < p0 ∨ p0 + 8 ≤ q) → Ω1 q = Ω q)) (oB G A) A) ([.ref p0] : List Value).toArray s 0 0 A) (F0 m 2 ls []) := by
    intro n_2
    induction n_2 with
    | zero =>
      intro x1_1 p0_1_1 Ω_3 H locs v_2_0 v_2_1 h_p0 hE hW hS ls hl hR
      exfalso
      omega
    | succ n_2 ih2 =>
      intro x1_1 p0_1_1 Ω_3 H locs v_2_0 v_2_1 h_p0 hE hW hS ls hl hR
      rw [f_X9_tells_L2] at hR
      refine lv_iload_n hx hb dX9_tells_2 rfl (lv_at hl 1 rfl) ?_
      refine lv_bipush (v := (93 : Int32)) hx hb dX9_tells_3 (by decide) ?_
      have j_5 : (93 : Int32).toInt = 93 := by decide
      refine lv_icmp_ge (tgt := 21) hx hb dX9_tells_5 (by decide) (fun c_4 => ?_) (fun c_4 => ?_)
      · rw [if_pos c_4] at hR
        have i_4 := rle c_4
        refine lv_aload_n hx hb dX9_tells_21 rfl (lv_at hl 0 rfl) ?_
        refine lv_iconst (v := (0 : Int32)) hx hb dX9_tells_22 (by decide) ?_
        refine vMod_9 hx hb hts hown hK hW hS hA h_p0 fl_X9_150 dX9_tells_23 (fun Ω_6 H locs h_p0 hF_6 hW hS => ?_)
        have hE : ∀ q : Nat, (q < p0 ∨ p0 + 8 ≤ q) → Ω_6 q = Ω q := fun q g0 => (hF_6 q (by omega)).trans (hE q g0)
        refine lv_aload_n hx hb dX9_tells_26 rfl (lv_at hl 0 rfl) ?_
        refine lv_bipush (v := (-9 : Int32)) hx hb dX9_tells_27 (by decide) ?_
        refine vMod_13 hx hb hts hown hK hW hS hA h_p0 fl_X9_169 dX9_tells_29 (fun Ω_7 H locs h_p0 hF_7 hW hS => ?_)
        have hE : ∀ q : Nat, (q < p0 ∨ p0 + 8 ≤ q) → Ω_7 q = Ω q := fun q g0 => (hF_7 q (by omega)).trans (hE q g0)
        refine lv_iconst (v := (0 : Int32)) hx hb dX9_tells_32 (by decide) ?_
        refine lv_istore_n (lv' := [(1, .int (0 : Int32)), (0, .ref p0)]) hx hb dX9_tells_33 rfl hl (by decide) rfl (fun ls hl => ?_)
        refine lv_aload_n hx hb dX9_tells_34 rfl (lv_at hl 1 rfl) ?_
        have z00 : (0 : Int32).toInt = 0 := by decide
        refine o_Vv (rest := []) (As := []) (n := 0) hx hb hml hown hts hK hN hZ hW hS hA (c_X9_next l G A Ω_7 p0 p0_0 p0_1_1 p0_2 p0_3 p0_4 p0_5 p0_6 p0_7 p0_8 (0 : Int32) p0_10 p0_11 p0_12 (-9 : Int32) (by omega) (by omega) h_p0) (inMod_o h_p0) rfl (good_V ml_X9_172 im_X9_next se_X9_next ini_X9 co_X9_next) (by decide +kernel) ⟨Nat.zero_le _, Nat.zero_le _⟩ hl.1 (Nat.le_of_ble_eq_true rfl) rfl rfl dX9_tells_35 (fun Ω_8 H locs hp hW hS => ?_)
        obtain ⟨h_p0, hF_8⟩ := hp
        have hE : ∀ q : Nat, (q < p0 ∨ p0 + 8 ≤ q) → Ω_8 q = Ω q := fun q g0 => (hF_8 q (by omega)).trans (hE q g0)
        try have qx_8 : 0 ≤ (f_X9_next p0_7 p0_8 (0 : Int32)).2.1.toInt ∧ 0 ≤ (0 : Int32).toInt ∧ (0 : Int32).toInt ≤ (f_X9_next p0_7 p0_8 (0 : Int32)).1.toInt ∧ (f_X9_next p0_7 p0_8 (0 : Int32)).1.toInt ≤ p0_8.toInt ∧ ((f_X9_next p0_7 p0_8 (0 : Int32)).2.2.1.toInt = 0 ∨ (0 : Int32).toInt < (f_X9_next p0_7 p0_8 (0 : Int32)).1.toInt) := R_next hy (by omega)
        have L38 : ∀ (n_10 : Nat) (x1_9 : Int32) (p0_1_9 : Fn) (p0_9_9 : Int32) (p0_10_9 : Int32) (p0_11_9 : Int32) (p0_12_9 : Int32) (p0_13_9 : Int32) (Ω_11 : Om) (H : Heap) (locs : List Loc), (DraftInv p0_1_9) → (1 ≤ n_10 ∧ (p0_13_9.toInt ≠ -9 ∨ p0_11_9.toInt = 0 ∨ 161 - p0_9_9.toInt < n_10)) → (0 ≤ p0_9_9.toInt ∧ p0_9_9.toInt ≤ p0_8.toInt) → (0 ≤ p0_10_9.toInt) → inMod G Ω_11 p0 p0_0 p0_1_9 p0_2 p0_3 p0_4 p0_5 p0_6 p0_7 p0_8 p0_9_9 p0_10_9 p0_11_9 p0_12_9 p0_13_9 → (∀ q : Nat, (q < p0 ∨ p0 + 8 ≤ q) → Ω_11 q = Ω q) → oW G A Ω_11 H → va_S A s.heap H locs → ∀ ls : Array Slot, lv_has ls 3 [(0, .ref p0), (1, .int x1_9)] → (f_X9_tells_L38 p0_0 p0_2 p0_4 p0_6 p0_7 p0_8 n_10 x1_9 p0_1_9 p0_9_9 p0_10_9 p0_11_9 p0_12_9 p0_13_9) = R → W p l e (headSpec (wz yX9_tells cX9_tells 3 (some .int)) ({ frames := 7, cells := 0, slots := 0, locals := 158 } : Room)).room s m ([.ref p0] : List Value).toArray below meth c H locs 0 0 (MQ below (va_Qi (fun (r : Int32) (Ω1 : Om) => r = R.1 ∧ inMod G Ω1 p0 (R.2.1) (R.2.2.1) (R.2.2.2.1) p0_3 (R.2.2.2.2.1) p0_5 (R.2.2.2.2.2.1) p0_7 (R.2.2.2.2.2.2.1) (R.2.2.2.2.2.2.2.1) (R.2.2.2.2.2.2.2.2.1) (R.2.2.2.2.2.2.2.2.2.1) (R.2.2.2.2.2.2.2.2.2.2.1) (R.2.2.2.2.2.2.2.2.2.2.2) ∧ (∀ q : Nat, (q < p0 ∨ p0 + 8 ≤ q) → Ω1 q = Ω q)) (oB G A) A) ([.ref p0] : List Value).toArray s 0 0 A) (F0 m 38 ls []) := by
          intro n_10
          induction n_10 with
          | zero =>
            intro x1_9 p0_1_9 p0_9_9 p0_10_9 p0_11_9 p0_12_9 p0_13_9 Ω_11 H locs v_38_0 v_38_1 v_38_2 v_38_3 h_p0 hE hW hS ls hl hR
            exfalso
            omega
          | succ n_10 ih38 =>
            intro x1_9 p0_1_9 p0_9_9 p0_10_9 p0_11_9 p0_12_9 p0_13_9 Ω_11 H locs v_38_0 v_38_1 v_38_2 v_38_3 h_p0 hE hW hS ls hl hR
            rw [f_X9_tells_L38] at hR
            refine lv_aload_n hx hb dX9_tells_38 rfl (lv_at hl 0 rfl) ?_
            refine o_get hx hb hts hown hK hW (inMod_o h_p0) rfl ig9 13 (by decide) fl_X9_169 rfl dX9_tells_39 ?_
            refine lv_bipush (v := (-9 : Int32)) hx hb dX9_tells_42 (by decide) ?_
            have J64 : ∀ (H : Heap) (locs : List Loc), oW G A Ω_11 H → va_S A s.heap H locs → ∀ ls : Array Slot, lv_has ls 3 [(0, .ref p0), (1, .int x1_9)] → (f_X9_tells_J64 p0_0 p0_1_9 p0_2 p0_4 p0_6 p0_8 p0_9_9 p0_10_9 p0_11_9 p0_12_9 p0_13_9 x1_9) = R → W p l e (headSpec (wz yX9_tells cX9_tells 3 (some .int)) ({ frames := 7, cells := 0, slots := 0, locals := 158 } : Room)).room s m ([.ref p0] : List Value).toArray below meth c H locs 0 0 (MQ below (va_Qi (fun (r : Int32) (Ω1 : Om) => r = R.1 ∧ inMod G Ω1 p0 (R.2.1) (R.2.2.1) (R.2.2.2.1) p0_3 (R.2.2.2.2.1) p0_5 (R.2.2.2.2.2.1) p0_7 (R.2.2.2.2.2.2.1) (R.2.2.2.2.2.2.2.1) (R.2.2.2.2.2.2.2.2.1) (R.2.2.2.2.2.2.2.2.2.1) (R.2.2.2.2.2.2.2.2.2.2.1) (R.2.2.2.2.2.2.2.2.2.2.2) ∧ (∀ q : Nat, (q < p0 ∨ p0 + 8 ≤ q) → Ω1 q = Ω q)) (oB G A) A) ([.ref p0] : List Value).toArray s 0 0 A) (F0 m 64 ls []) := by
              intro H locs hW hS ls hl hR
              rw [f_X9_tells_J64] at hR
              refine lv_aload_n hx hb dX9_tells_64 rfl (lv_at hl 0 rfl) ?_
              refine o_get hx hb hts hown hK hW (inMod_o h_p0) rfl ig9 13 (by decide) fl_X9_169 rfl dX9_tells_65 ?_
              refine lv_bipush (v := (-9 : Int32)) hx hb dX9_tells_68 (by decide) ?_
              have j_14 : (-9 : Int32).toInt = -9 := by decide
              refine lv_icmp_eq (tgt := 81) hx hb dX9_tells_70 (by decide) (fun c_13 => ?_) (fun c_13 => ?_)
              · rw [if_pos c_13] at hR
                have i_13 := congrArg Int32.toInt c_13
                refine lv_iconst (v := (0 : Int32)) hx hb dX9_tells_81 (by decide) ?_
                refine lv_istore_n (lv' := [(2, .int (0 : Int32)), (0, .ref p0), (1, .int x1_9)]) hx hb dX9_tells_82 rfl hl (by decide) rfl (fun ls hl => ?_)
                have L83 : ∀ (n_16 : Nat) (x2_15 : Int32) (p0_0_15 : Fn) (Ω_17 : Om) (H : Heap) (locs : List Loc), (0 ≤ x2_15.toInt ∧ x2_15.toInt ≤ 93 ∧ 93 - x2_15.toInt < n_16) → (∀ j : Nat, (j : Int) < x2_15.toInt → p0_0_15 j = p0_1_9 j) → inMod G Ω_17 p0 p0_0_15 p0_1_9 p0_2 p0_3 p0_4 p0_5 p0_6 p0_7 p0_8 p0_9_9 p0_10_9 p0_11_9 p0_12_9 p0_13_9 → (∀ q : Nat, (q < p0 ∨ p0 + 8 ≤ q) → Ω_17 q = Ω q) → oW G A Ω_17 H → va_S A s.heap H locs → ∀ ls : Array Slot, lv_has ls 3 [(0, .ref p0), (1, .int x1_9), (2, .int x2_15)] → (f_X9_tells_L83 p0_1_9 p0_2 p0_6 p0_9_9 p0_10_9 p0_11_9 p0_12_9 p0_13_9 x1_9 n_16 x2_15 p0_0_15) = R → W p l e (headSpec (wz yX9_tells cX9_tells 3 (some .int)) ({ frames := 7, cells := 0, slots := 0, locals := 158 } : Room)).room s m ([.ref p0] : List Value).toArray below meth c H locs 0 0 (MQ below (va_Qi (fun (r : Int32) (Ω1 : Om) => r = R.1 ∧ inMod G Ω1 p0 (R.2.1) (R.2.2.1) (R.2.2.2.1) p0_3 (R.2.2.2.2.1) p0_5 (R.2.2.2.2.2.1) p0_7 (R.2.2.2.2.2.2.1) (R.2.2.2.2.2.2.2.1) (R.2.2.2.2.2.2.2.2.1) (R.2.2.2.2.2.2.2.2.2.1) (R.2.2.2.2.2.2.2.2.2.2.1) (R.2.2.2.2.2.2.2.2.2.2.2) ∧ (∀ q : Nat, (q < p0 ∨ p0 + 8 ≤ q) → Ω1 q = Ω q)) (oB G A) A) ([.ref p0] : List Value).toArray s 0 0 A) (F0 m 83 ls []) := by
                  intro n_16
                  induction n_16 with
                  | zero =>
                    intro x2_15 p0_0_15 Ω_17 H locs v_83_0 v_83_1 h_p0 hE hW hS ls hl hR
                    exfalso
                    omega
                  | succ n_16 ih83 =>
                    intro x2_15 p0_0_15 Ω_17 H locs v_83_0 v_83_1 h_p0 hE hW hS ls hl hR
                    rw [f_X9_tells_L83] at hR
                    refine lv_iload_n hx hb dX9_tells_83 rfl (lv_at hl 2 rfl) ?_
                    refine lv_bipush (v := (93 : Int32)) hx hb dX9_tells_84 (by decide) ?_
                    refine lv_icmp_ge (tgt := 107) hx hb dX9_tells_86 (by decide) (fun c_18 => ?_) (fun c_18 => ?_)
                    · rw [if_pos c_18] at hR
                      have i_18 := rle c_18
                      refine lv_aload_n hx hb dX9_tells_107 rfl (lv_at hl 0 rfl) ?_
                      refine lv_iconst (v := (0 : Int32)) hx hb dX9_tells_108 (by decide) ?_
                      refine vMod_8 hx hb hts hown hK hW hS hA h_p0 fl_X9_147 dX9_tells_109 (fun Ω_19 H locs h_p0 hF_19 hW hS => ?_)
                      have hE : ∀ q : Nat, (q < p0 ∨ p0 + 8 ≤ q) → Ω_19 q = Ω q := fun q g0 => (hF_19 q (by omega)).trans (hE q g0)
                      refine lv_aload_n hx hb dX9_tells_112 rfl (lv_at hl 0 rfl) ?_
                      have hM9 : ToldInv p0_0_15 := TI_cong (show DraftInv p0_1_9 by assumption).1 (fun j hj => v_83_1 j (by omega))
                      refine o_Vv (rest := []) (As := []) (n := 0) hx hb hml hown hts hK hN hZ hW hS hA (c_X9_begin l G A Ω_19 p0 p0_0_15 p0_1_9 p0_2 p0_3 p0_4 p0_5 p0_6 p0_7 (0 : Int32) p0_9_9 p0_10_9 p0_11_9 p0_12_9 p0_13_9 (by assumption) h_p0) (inMod_o h_p0) rfl (good_V ml_X9_32 im_X9_begin se_X9_begin ini_X9 co_X9_begin) (by decide +kernel) ⟨Nat.zero_le _, Nat.zero_le _⟩ hl.1 (Nat.le_of_ble_eq_true rfl) rfl rfl dX9_tells_113 (fun Ω_20 H locs hp hW hS => ?_)
                      obtain ⟨h_p0, hF_20⟩ := hp
                      have hE : ∀ q : Nat, (q < p0 ∨ p0 + 8 ≤ q) → Ω_20 q = Ω q := fun q g0 => (hF_20 q (by omega)).trans (hE q g0)
                      generalize (f_X9_begin p0_0_15 p0_2 p0_6) = Z_20 at h_p0 hR
                      obtain ⟨z20_0, z20_1, z20_2⟩ := Z_20
                      dsimp only at h_p0 hR
                      rw [f_X9_tells_C116] at hR
                      refine lv_iload_n hx hb dX9_tells_116 rfl (lv_at hl 1 rfl) ?_
                      subst hR
                      exact W.iret (v := x1_9) hx hb hr (fun t ht hW9 => ⟨⟨x1_9, Ω_20, rfl, ⟨rfl, h_p0, hE⟩, by rw [oB, ht]; exact hW⟩, hS.F ht⟩) hS.2.2 dX9_tells_117
                    · rw [if_neg c_18] at hR
                      have i_18 := rnle c_18
                      refine lv_aload_n hx hb dX9_tells_89 rfl (lv_at hl 0 rfl) ?_
                      refine o_get hx hb hts hown hK hW (inMod_o h_p0) rfl ig9 0 (by decide) fl_X9_7 rfl dX9_tells_90 ?_
                      refine lv_iload_n hx hb dX9_tells_93 rfl (lv_at hl 2 rfl) ?_
                      refine lv_aload_n hx hb dX9_tells_94 rfl (lv_at hl 0 rfl) ?_
                      refine o_get hx hb hts hown hK hW (inMod_o h_p0) rfl ig9 1 (by decide) fl_X9_13 rfl dX9_tells_95 ?_
                      refine lv_iload_n hx hb dX9_tells_98 rfl (lv_at hl 2 rfl) ?_
                      refine o_iald hx hb hK hW (inMod_a1 h_p0) (vp_in_iff.mpr ⟨by omega, by omega⟩) dX9_tells_99 ?_
                      refine wMod_0 hx hb hK hW hS hA h_p0 (vp_in_iff.mpr ⟨by omega, by omega⟩) dX9_tells_100 (fun Ω_21 H locs h_p0 hF_21 hW hS => ?_)
                      have hE : ∀ q : Nat, (q < p0 ∨ p0 + 8 ≤ q) → Ω_21 q = Ω q := fun q g0 => (hF_21 q (by omega)).trans (hE q g0)
                      refine lv_iinc (v := (x2_15 + (1 : Int32))) (lv' := [(2, .int (x2_15 + (1 : Int32))), (0, .ref p0), (1, .int x1_9)]) hx hb dX9_tells_101 hl (k := 2) rfl rfl (by decide) rfl (fun ls hl => ?_)
                      refine lv_goto (tgt := 83) hx hb dX9_tells_104 (by decide) ?_
                      have j_22 : (1 : Int32).toInt = 1 := by decide
                      try have j_23 : (x2_15 + (1 : Int32)).toInt = x2_15.toInt + (1 : Int32).toInt := fb_addI (by omega) (by omega)
                      have qc : ∀ j : Nat, (j : Int) < (x2_15 + (1 : Int32)).toInt → (upd p0_0_15 x2_15.toNatClampNeg (p0_1_9 x2_15.toNatClampNeg)) j = p0_1_9 j := by first | exact cp_0 | exact cp_s (by assumption) (by omega) (by omega)
                      exact ih83 (x2_15 + (1 : Int32)) (upd p0_0_15 x2_15.toNatClampNeg (p0_1_9 x2_15.toNatClampNeg)) Ω_21 H locs (by omega) (by assumption) h_p0 hE hW hS ls (lv_sub hl [1, 2, 0] rfl) hR
                have j_24 : (0 : Int32).toInt = 0 := by decide
                have qc : ∀ j : Nat, (j : Int) < (0 : Int32).toInt → p0_0 j = p0_1_9 j := by first | exact cp_0 | exact cp_s (by assumption) (by omega) (by omega)
                exact L83 4000 (0 : Int32) p0_0 Ω_11 H locs (by omega) (by assumption) h_p0 hE hW hS ls (lv_sub hl [1, 2, 0] rfl) hR
              · rw [if_neg c_13] at hR
                have i_13 := rne c_13
                refine lv_bipush (v := (-10 : Int32)) hx hb dX9_tells_73 (by decide) ?_
                refine lv_aload_n hx hb dX9_tells_75 rfl (lv_at hl 0 rfl) ?_
                refine o_get hx hb hts hown hK hW (inMod_o h_p0) rfl ig9 13 (by decide) fl_X9_169 rfl dX9_tells_76 ?_
                refine lv_isub hx hb dX9_tells_79 ?_
                subst hR
                exact W.iret (v := ((-10 : Int32) - p0_13_9)) hx hb hr (fun t ht hW9 => ⟨⟨((-10 : Int32) - p0_13_9), Ω_11, rfl, ⟨rfl, h_p0, hE⟩, by rw [oB, ht]; exact hW⟩, hS.F ht⟩) hS.2.2 dX9_tells_80
            have j_26 : (-9 : Int32).toInt = -9 := by decide
            refine lv_icmp_ne (tgt := 64) hx hb dX9_tells_44 (by decide) (fun c_25 => ?_) (fun c_25 => ?_)
            · rw [if_neg c_25] at hR
              have i_25 := rne c_25
              exact J64 H locs hW hS ls (lv_sub hl [0, 1] rfl) hR
            · rw [if_pos c_25] at hR
              have i_25 := congrArg Int32.toInt c_25
              refine lv_aload_n hx hb dX9_tells_47 rfl (lv_at hl 0 rfl) ?_
              refine o_get hx hb hts hown hK hW (inMod_o h_p0) rfl ig9 11 (by decide) fl_X9_162 rfl dX9_tells_48 ?_
              have j_28 : (0 : Int32).toInt = 0 := by decide
              refine lv_if_eq (tgt := 64) hx hb dX9_tells_51 (by decide) (fun c_27 => ?_) (fun c_27 => ?_)
              · rw [if_pos c_27] at hR
                have i_27 := congrArg Int32.toInt c_27
                exact J64 H locs hW hS ls (lv_sub hl [0, 1] rfl) hR
              · rw [if_neg c_27] at hR
                have i_27 := rne c_27
                refine lv_aload_n hx hb dX9_tells_54 rfl (lv_at hl 0 rfl) ?_
                refine o_Vv (rest := []) (As := []) (n := 0) hx hb hml hown hts hK hN hZ hW hS hA (c_X9_readItem l G A Ω_11 p0 p0_0 p0_1_9 p0_2 p0_3 p0_4 p0_5 p0_6 p0_7 p0_8 p0_9_9 p0_10_9 p0_11_9 p0_12_9 p0_13_9 (by omega) (by omega) (by omega) (by assumption) h_p0) (inMod_o h_p0) rfl (good_V ml_X9_197 im_X9_readItem se_X9_readItem ini_X9 co_X9_readItem) (by decide +kernel) ⟨Nat.zero_le _, Nat.zero_le _⟩ hl.1 (Nat.le_of_ble_eq_true rfl) rfl rfl dX9_tells_55 (fun Ω_29 H locs hp hW hS => ?_)
                obtain ⟨h_p0, hF_29⟩ := hp
                have hE : ∀ q : Nat, (q < p0 ∨ p0 + 8 ≤ q) → Ω_29 q = Ω q := fun q g0 => (hF_29 q (by omega)).trans (hE q g0)
                have qd_29 : DraftInv (f_X9_readItem p0_1_9 p0_7 p0_8 p0_9_9 p0_10_9 p0_11_9 p0_12_9 p0_13_9).1 := (RM_readItem (by assumption) hy (by omega) (by omega)).1
                have qm_29 : p0_9_9.toInt ≤ (f_X9_readItem p0_1_9 p0_7 p0_8 p0_9_9 p0_10_9 p0_11_9 p0_12_9 p0_13_9).2.1.toInt ∧ (f_X9_readItem p0_1_9 p0_7 p0_8 p0_9_9 p0_10_9 p0_11_9 p0_12_9 p0_13_9).2.1.toInt ≤ p0_8.toInt := (RM_readItem (by assumption) hy (by omega) (by omega)).2.1
                have qa_29 : 0 ≤ (f_X9_readItem p0_1_9 p0_7 p0_8 p0_9_9 p0_10_9 p0_11_9 p0_12_9 p0_13_9).2.2.1.toInt := (RM_readItem (by assumption) hy (by omega) (by omega)).2.2.1
                have qf_29 : (f_X9_readItem p0_1_9 p0_7 p0_8 p0_9_9 p0_10_9 p0_11_9 p0_12_9 p0_13_9).2.2.2.2.2.toInt ≠ -9 ∨ (p0_13_9.toInt = -9 ∧ ((f_X9_readItem p0_1_9 p0_7 p0_8 p0_9_9 p0_10_9 p0_11_9 p0_12_9 p0_13_9).2.2.2.1.toInt = 0 ∨ p0_9_9.toInt < (f_X9_readItem p0_1_9 p0_7 p0_8 p0_9_9 p0_10_9 p0_11_9 p0_12_9 p0_13_9).2.1.toInt)) := (RM_readItem (by assumption) hy (by omega) (by omega)).2.2.2
                generalize (f_X9_readItem p0_1_9 p0_7 p0_8 p0_9_9 p0_10_9 p0_11_9 p0_12_9 p0_13_9) = Z_29 at h_p0 hR qd_29 qm_29 qa_29 qf_29
                obtain ⟨z29_0, z29_1, z29_2, z29_3, z29_4, z29_5⟩ := Z_29
                dsimp only at h_p0 hR qd_29 qm_29 qa_29 qf_29
                rw [f_X9_tells_C58] at hR
                refine lv_iinc (v := (x1_9 + (1 : Int32))) (lv' := [(1, .int (x1_9 + (1 : Int32))), (0, .ref p0)]) hx hb dX9_tells_58 hl (k := 1) rfl rfl (by decide) rfl (fun ls hl => ?_)
                refine lv_goto (tgt := 38) hx hb dX9_tells_61 (by decide) ?_
                have j_30 : (1 : Int32).toInt = 1 := by decide
                try have j_31 : (x1_9 + (1 : Int32)).toInt = x1_9.toInt + (1 : Int32).toInt := fb_addI (by omega) (by omega)
                have qD : DraftInv z29_0 := by first | assumption | exact DI_zero (fun j hj => v_2_1 j (by omega))
                exact ih38 (x1_9 + (1 : Int32)) z29_0 z29_1 z29_2 z29_3 z29_4 z29_5 Ω_29 H locs (by assumption) (by omega) (by omega) (by omega) h_p0 hE hW hS ls (lv_sub hl [1, 0] rfl) hR
        have j_32 : (0 : Int32).toInt = 0 := by decide
        have j_33 : (-9 : Int32).toInt = -9 := by decide
        have qD : DraftInv p0_1_1 := by first | assumption | exact DI_zero (fun j hj => v_2_1 j (by omega))
        exact L38 4000 (0 : Int32) p0_1_1 ((f_X9_next p0_7 p0_8 (0 : Int32)).1) ((f_X9_next p0_7 p0_8 (0 : Int32)).2.1) ((f_X9_next p0_7 p0_8 (0 : Int32)).2.2.1) ((f_X9_next p0_7 p0_8 (0 : Int32)).2.2.2) (-9 : Int32) Ω_8 H locs (by assumption) (by omega) (by omega) (by omega) h_p0 hE hW hS ls (lv_sub hl [1, 0] rfl) hR
      · rw [if_neg c_4] at hR
        have i_4 := rnle c_4
        refine lv_aload_n hx hb dX9_tells_8 rfl (lv_at hl 0 rfl) ?_
        refine o_get hx hb hts hown hK hW (inMod_o h_p0) rfl ig9 1 (by decide) fl_X9_13 rfl dX9_tells_9 ?_
        refine lv_iload_n hx hb dX9_tells_12 rfl (lv_at hl 1 rfl) ?_
        refine lv_iconst (v := (0 : Int32)) hx hb dX9_tells_13 (by decide) ?_
        refine wMod_1 hx hb hK hW hS hA h_p0 (vp_in_iff.mpr ⟨by omega, by omega⟩) dX9_tells_14 (fun Ω_34 H locs h_p0 hF_34 hW hS => ?_)
        have hE : ∀ q : Nat, (q < p0 ∨ p0 + 8 ≤ q) → Ω_34 q = Ω q := fun q g0 => (hF_34 q (by omega)).trans (hE q g0)
        refine lv_iinc (v := (x1_1 + (1 : Int32))) (lv' := [(1, .int (x1_1 + (1 : Int32))), (0, .ref p0)]) hx hb dX9_tells_15 hl (k := 1) rfl rfl (by decide) rfl (fun ls hl => ?_)
        refine lv_goto (tgt := 2) hx hb dX9_tells_18 (by decide) ?_
        have j_35 : (1 : Int32).toInt = 1 := by decide
        try have j_36 : (x1_1 + (1 : Int32)).toInt = x1_1.toInt + (1 : Int32).toInt := fb_addI (by omega) (by omega)
        have qz : ∀ j : Nat, (j : Int) < (x1_1 + (1 : Int32)).toInt → (upd p0_1_1 x1_1.toNatClampNeg (0 : Int32)) j = 0 := by first | exact zf_0 | exact zf_s (by assumption) (by omega) (by omega)
        exact ih2 (x1_1 + (1 : Int32)) (upd p0_1_1 x1_1.toNatClampNeg (0 : Int32)) Ω_34 H locs (by omega) (by assumption) h_p0 hE hW hS ls (lv_sub hl [1, 0] rfl) hR
  have j_37 : (0 : Int32).toInt = 0 := by decide
  have qz : ∀ j : Nat, (j : Int) < (0 : Int32).toInt → p0_1 j = 0 := by first | exact zf_0 | exact zf_s (by assumption) (by omega) (by omega)
  exact L2 4000 (0 : Int32) p0_1 Ω s.heap [] (by omega) (by assumption) h_p0 hE hW hS ls (lv_sub hl [1, 0] rfl) hR
