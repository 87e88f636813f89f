set_option maxHeartbeats 4000000 in
set_option maxRecDepth 100000 in
theorem c_X9_tells (l : Launch) (G : Gm) (A : Nat → Prop) (Ω : Om) (p0 : Nat) (p0_0 : Fn) (p0_1 : Fn) (p0_2 : Fn) (p0_3 : Fn) (p0_4 : Int32) (p0_5 : Fn) (p0_6 : Fn) (p0_7 : Fn) (p0_8 : Int32) (p0_9 : Int32) (p0_10 : Int32) (p0_11 : Int32) (p0_12 : Int32) (p0_13 : Int32) (hy : 0 ≤ p0_8.toInt ∧ p0_8.toInt ≤ 160) (h_p0 : inMod G Ω p0 p0_0 p0_1 p0_2 p0_3 p0_4 p0_5 p0_6 p0_7 p0_8 p0_9 p0_10 p0_11 p0_12 p0_13) : Met l yX9_tells (wz yX9_tells cX9_tells 3 (some .int)) ({ frames := 7, cells := 0, slots := 0, locals := 158 } : Room) (va_Pc [.ref p0] (oS G A Ω)) (va_Qi (fun (r : Int32) (Ω1 : Om) => r = (f_X9_tells p0_0 p0_1 p0_2 p0_4 p0_6 p0_7 p0_8).1 ∧ inMod G Ω1 p0 ((f_X9_tells p0_0 p0_1 p0_2 p0_4 p0_6 p0_7 p0_8).2.1) ((f_X9_tells p0_0 p0_1 p0_2 p0_4 p0_6 p0_7 p0_8).2.2.1) ((f_X9_tells p0_0 p0_1 p0_2 p0_4 p0_6 p0_7 p0_8).2.2.2.1) p0_3 ((f_X9_tells p0_0 p0_1 p0_2 p0_4 p0_6 p0_7 p0_8).2.2.2.2.1) p0_5 ((f_X9_tells p0_0 p0_1 p0_2 p0_4 p0_6 p0_7 p0_8).2.2.2.2.2.1) p0_7 ((f_X9_tells p0_0 p0_1 p0_2 p0_4 p0_6 p0_7 p0_8).2.2.2.2.2.2.1) ((f_X9_tells p0_0 p0_1 p0_2 p0_4 p0_6 p0_7 p0_8).2.2.2.2.2.2.2.1) ((f_X9_tells p0_0 p0_1 p0_2 p0_4 p0_6 p0_7 p0_8).2.2.2.2.2.2.2.2.1) ((f_X9_tells p0_0 p0_1 p0_2 p0_4 p0_6 p0_7 p0_8).2.2.2.2.2.2.2.2.2.1) ((f_X9_tells p0_0 p0_1 p0_2 p0_4 p0_6 p0_7 p0_8).2.2.2.2.2.2.2.2.2.2.1) ((f_X9_tells p0_0 p0_1 p0_2 p0_4 p0_6 p0_7 p0_8).2.2.2.2.2.2.2.2.2.2.2) ∧ (∀ q : Nat, (q < p0 ∨ p0 + 8 ≤ q) → Ω1 q = Ω q)) (oB G A) A) 0 0 A := by
  refine Met.ofW (cc := cX9_tells) (maxL := 3) (ret := (some .int)) (by decide) rfl ?_
  intro p e s m args below meth c s₁ B hml hv
  obtain ⟨rfl, hW, hK, hN, hZ⟩ := hv
  have hx := B.exec
  have hb := B.bytes
  have hr := B.returns
  have hts : ∀ w ∈ gt, w.before _ s = true := fun w hw => atoms_spec (ws := wz yX9_tells cX9_tells 3 (some .int)) B.pre w (List.mem_cons_of_mem _ hw)
  have hown : s.vm.findClass RX9 = some m.cls := findClass_of_methodNamed B.named
  have hlocks := B.notSynchronized
  have hA : ∀ q, A q → A q := fun _ h => h
  have hS : va_S A s.heap s.heap [] := va_S.rf
  have hS0 := hS
  have hl := lv_entry ([.ref p0]) (n := 3) (Nat.le_of_ble_eq_true rfl)
  rw [lg_entry_eq]
  generalize (lg_sl ([.ref p0]) ++ List.replicate (3 - (lg_sl ([.ref p0])).length) Slot.unset).toArray = ls at hl ⊢
  have hl : lv_has ls 3 [(0, .ref p0)] := hl
  have hE : ∀ q : Nat, (q < p0 ∨ p0 + 8 ≤ q) → Ω q = Ω q := by intros; rfl
  generalize hR : (f_X9_tells p0_0 p0_1 p0_2 p0_4 p0_6 p0_7 p0_8) = R
  rw [f_X9_tells] at hR
  refine lv_iconst (v := (0 : Int32)) hx hb dX9_tells_0 (by decide) ?_
  refine lv_istore_n (lv' := [(1, .int (0 : Int32)), (0, .ref p0)]) hx hb dX9_tells_1 rfl hl (by decide) rfl (fun ls hl => ?_)
  have L2 : ∀ (n_2 : Nat) (x1_1 : Int32) (p0_1_1 : Fn) (Ω_3 : Om) (H : Heap) (locs : List Loc), (0 ≤ x1_1.toInt ∧ x1_1.toInt ≤ 93 ∧ 93 - x1_1.toInt < n_2) → (∀ j : Nat, (j : Int) < x1_1.toInt → p0_1_1 j = 0) → inMod G Ω_3 p0 p0_0 p0_1_1 p0_2 p0_3 p0_4 p0_5 p0_6 p0_7 p0_8 p0_9 p0_10 p0_11 p0_12 p0_13 → (∀ q : Nat, (q < p0 ∨ p0 + 8 ≤ q) → Ω_3 q = Ω q) → oW G A Ω_3 H → va_S A s.heap H locs → ∀ ls : Array Slot, lv_has ls 3 [(0, .ref p0), (1, .int x1_1)] → (f_X9_tells_L2 p0_0 p0_2 p0_4 p0_6 p0_7 p0_8 n_2 x1_1 p0_1_1) = R → W p l e (headSpec (wz yX9_tells cX9_tells 3 (some .int)) ({ frames := 7, cells := 0, slots := 0, locals := 158 } : Room)).room s m ([.ref p0] : List Value).toArray below meth c H locs 0 0 (MQ below (va_Qi (fun (r : Int32) (Ω1 : Om) => r = R.1 ∧ inMod G Ω1 p0 (R.2.1) (R.2.2.1) (R.2.2.2.1) p0_3 (R.2.2.2.2.1) p0_5 (R.2.2.2.2.2.1) p0_7 (R.2.2.2.2.2.2.1) (R.2.2.2.2.2.2.2.1) (R.2.2.2.2.2.2.2.2.1) (R.2.2.2.2.2.2.2.2.2.1) (R.2.2.2.2.2.2.2.2.2.2.1) (R.2.2.2.2.2.2.2.2.2.2.2) ∧ (∀ q : Nat, (q < p0 ∨ p0 + 8 ≤ q) → Ω1 q = Ω q)) (oB G A) A) ([.ref p0] : List Value).toArray s 0 0 A) (F0 m 2 ls []) := by
    intro n_2
    induction n_2 with
    | zero =>
      intro x1_1 p0_1_1 Ω_3 H locs v_2_0 v_2_1 h_p0 hE hW hS ls hl hR
      exfalso
      omega
    | succ n_2 ih2 =>
      intro x1_1 p0_1_1 Ω_3 H locs v_2_0 v_2_1 h_p0 hE hW hS ls hl hR
      rw [f_X9_tells_L2] at hR
      refine lv_iload_n hx hb dX9_tells_2 rfl (lv_at hl 1 rfl) ?_
      refine lv_bipush (v := (93 : Int32)) hx hb dX9_tells_3 (by decide) ?_
      have j_5 : (93 : Int32).toInt = 93 := by decide
      refine lv_icmp_ge (tgt := 21) hx hb dX9_tells_5 (by decide) (fun c_4 => ?_) (fun c_4 => ?_)
      · rw [if_pos c_4] at hR
        have i_4 := rle c_4
        refine lv_aload_n hx hb dX9_tells_21 rfl (lv_at hl 0 rfl) ?_
        refine lv_iconst (v := (0 : Int32)) hx hb dX9_tells_22 (by decide) ?_
        refine vMod_9 hx hb hts hown hK hW hS hA h_p0 fl_X9_150 dX9_tells_23 (fun Ω_6 H locs h_p0 hF_6 hW hS => ?_)
        have hE : ∀ q : Nat, (q < p0 ∨ p0 + 8 ≤ q) → Ω_6 q = Ω q := fun q g0 => (hF_6 q (by omega)).trans (hE q g0)
        refine lv_aload_n hx hb dX9_tells_26 rfl (lv_at hl 0 rfl) ?_
        refine lv_bipush (v := (-9 : Int32)) hx hb dX9_tells_27 (by decide) ?_
        refine vMod_13 hx hb hts hown hK hW hS hA h_p0 fl_X9_169 dX9_tells_29 (fun Ω_7 H locs h_p0 hF_7 hW hS => ?_)
        have hE : ∀ q : Nat, (q < p0 ∨ p0 + 8 ≤ q) → Ω_7 q = Ω q := fun q g0 => (hF_7 q (by omega)).trans (hE q g0)
        refine lv_iconst (v := (0 : Int32)) hx hb dX9_tells_32 (by decide) ?_
        refine lv_istore_n (lv' := [(1, .int (0 : Int32)), (0, .ref p0)]) hx hb dX9_tells_33 rfl hl (by decide) rfl (fun ls hl => ?_)
        refine lv_aload_n hx hb dX9_tells_34 rfl (lv_at hl 1 rfl) ?_
        have z00 : (0 : Int32).toInt = 0 := by decide
        refine o_Vv (rest := []) (As := []) (n := 0) hx hb hml hown hts hK hN hZ hW hS hA (c_X9_next l G A Ω_7 p0 p0_0 p0_1_1 p0_2 p0_3 p0_4 p0_5 p0_6 p0_7 p0_8 (0 : Int32) p0_10 p0_11 p0_12 (-9 : Int32) (by omega) (by omega) h_p0) (inMod_o h_p0) rfl (good_V ml_X9_172 im_X9_next se_X9_next ini_X9 co_X9_next) (by decide +kernel) ⟨Nat.zero_le _, Nat.zero_le _⟩ hl.1 (Nat.le_of_ble_eq_true rfl) rfl rfl dX9_tells_35 (fun Ω_8 H locs hp hW hS => ?_)
        obtain ⟨h_p0, hF_8⟩ := hp
        have hE : ∀ q : Nat, (q < p0 ∨ p0 + 8 ≤ q) → Ω_8 q = Ω q := fun q g0 => (hF_8 q (by omega)).trans (hE q g0)
        try have qx_8 : 0 ≤ (f_X9_next p0_7 p0_8 (0 : Int32)).2.1.toInt ∧ 0 ≤ (0 : Int32).toInt ∧ (0 : Int32).toInt ≤ (f_X9_next p0_7 p0_8 (0 : Int32)).1.toInt ∧ (f_X9_next p0_7 p0_8 (0 : Int32)).1.toInt ≤ p0_8.toInt ∧ ((f_X9_next p0_7 p0_8 (0 : Int32)).2.2.1.toInt = 0 ∨ (0 : Int32).toInt < (f_X9_next p0_7 p0_8 (0 : Int32)).1.toInt) := R_next hy (by omega)
        have L38 : ∀ (n_10 : Nat) (x1_9 : Int32) (p0_1_9 : Fn) (p0_9_9 : Int32) (p0_10_9 : Int32) (p0_11_9 : Int32) (p0_12_9 : Int32) (p0_13_9 : Int32) (Ω_11 : Om) (H : Heap) (locs : List Loc), (DraftInv p0_1_9) → (1 ≤ n_10 ∧ (p0_13_9.toInt ≠ -9 ∨ p0_11_9.toInt = 0 ∨ 161 - p0_9_9.toInt < n_10)) → (0 ≤ p0_9_9.toInt ∧ p0_9_9.toInt ≤ p0_8.toInt) → (0 ≤ p0_10_9.toInt) → inMod G Ω_11 p0 p0_0 p0_1_9 p0_2 p0_3 p0_4 p0_5 p0_6 p0_7 p0_8 p0_9_9 p0_10_9 p0_11_9 p0_12_9 p0_13_9 → (∀ q : Nat, (q < p0 ∨ p0 + 8 ≤ q) → Ω_11 q = Ω q) → oW G A Ω_11 H → va_S A s.heap H locs → ∀ ls : Array Slot, lv_has ls 3 [(0, .ref p0), (1, .int x1_9)] → (f_X9_tells_L38 p0_0 p0_2 p0_4 p0_6 p0_7 p0_8 n_10 x1_9 p0_1_9 p0_9_9 p0_10_9 p0_11_9 p0_12_9 p0_13_9) = R → W p l e (headSpec (wz yX9_tells cX9_tells 3 (some .int)) ({ frames := 7, cells := 0, slots := 0, locals := 158 } : Room)).room s m ([.ref p0] : List Value).toArray below meth c H locs 0 0 (MQ below (va_Qi (fun (r : Int32) (Ω1 : Om) => r = R.1 ∧ inMod G Ω1 p0 (R.2.1) (R.2.2.1) (R.2.2.2.1) p0_3 (R.2.2.2.2.1) p0_5 (R.2.2.2.2.2.1) p0_7 (R.2.2.2.2.2.2.1) (R.2.2.2.2.2.2.2.1) (R.2.2.2.2.2.2.2.2.1) (R.2.2.2.2.2.2.2.2.2.1) (R.2.2.2.2.2.2.2.2.2.2.1) (R.2.2.2.2.2.2.2.2.2.2.2) ∧ (∀ q : Nat, (q < p0 ∨ p0 + 8 ≤ q) → Ω1 q = Ω q)) (oB G A) A) ([.ref p0] : List Value).toArray s 0 0 A) (F0 m 38 ls []) := by
          intro n_10
          induction n_10 with
          | zero =>
            intro x1_9 p0_1_9 p0_9_9 p0_10_9 p0_11_9 p0_12_9 p0_13_9 Ω_11 H locs v_38_0 v_38_1 v_38_2 v_38_3 h_p0 hE hW hS ls hl hR
            exfalso
            omega
          | succ n_10 ih38 =>
            intro x1_9 p0_1_9 p0_9_9 p0_10_9 p0_11_9 p0_12_9 p0_13_9 Ω_11 H locs v_38_0 v_38_1 v_38_2 v_38_3 h_p0 hE hW hS ls hl hR
            rw [f_X9_tells_L38] at hR
            refine lv_aload_n hx hb dX9_tells_38 rfl (lv_at hl 0 rfl) ?_
            refine o_get hx hb hts hown hK hW (inMod_o h_p0) rfl ig9 13 (by decide) fl_X9_169 rfl dX9_tells_39 ?_
            refine lv_bipush (v := (-9 : Int32)) hx hb dX9_tells_42 (by decide) ?_
            have J64 : ∀ (H : Heap) (locs : List Loc), oW G A Ω_11 H → va_S A s.heap H locs → ∀ ls : Array Slot, lv_has ls 3 [(0, .ref p0), (1, .int x1_9)] → (f_X9_tells_J64 p0_0 p0_1_9 p0_2 p0_4 p0_6 p0_8 p0_9_9 p0_10_9 p0_11_9 p0_12_9 p0_13_9 x1_9) = R → W p l e (headSpec (wz yX9_tells cX9_tells 3 (some .int)) ({ frames := 7, cells := 0, slots := 0, locals := 158 } : Room)).room s m ([.ref p0] : List Value).toArray below meth c H locs 0 0 (MQ below (va_Qi (fun (r : Int32) (Ω1 : Om) => r = R.1 ∧ inMod G Ω1 p0 (R.2.1) (R.2.2.1) (R.2.2.2.1) p0_3 (R.2.2.2.2.1) p0_5 (R.2.2.2.2.2.1) p0_7 (R.2.2.2.2.2.2.1) (R.2.2.2.2.2.2.2.1) (R.2.2.2.2.2.2.2.2.1) (R.2.2.2.2.2.2.2.2.2.1) (R.2.2.2.2.2.2.2.2.2.2.1) (R.2.2.2.2.2.2.2.2.2.2.2) ∧ (∀ q : Nat, (q < p0 ∨ p0 + 8 ≤ q) → Ω1 q = Ω q)) (oB G A) A) ([.ref p0] : List Value).toArray s 0 0 A) (F0 m 64 ls []) := by
              intro H locs hW hS ls hl hR
              rw [f_X9_tells_J64] at hR
              refine lv_aload_n hx hb dX9_tells_64 rfl (lv_at hl 0 rfl) ?_
              refine o_get hx hb hts hown hK hW (inMod_o h_p0) rfl ig9 13 (by decide) fl_X9_169 rfl dX9_tells_65 ?_
              refine lv_bipush (v := (-9 : Int32)) hx hb dX9_tells_68 (by decide) ?_
              have j_14 : (-9 : Int32).toInt = -9 := by decide
              refine lv_icmp_eq (tgt := 81) hx hb dX9_tells_70 (by decide) (fun c_13 => ?_) (fun c_13 => ?_)
              · rw [if_pos c_13] at hR
                have i_13 := congrArg Int32.toInt c_13
                refine lv_iconst (v := (0 : Int32)) hx hb dX9_tells_81 (by decide) ?_
                refine lv_istore_n (lv' := [(2, .int (0 : Int32)), (0, .ref p0), (1, .int x1_9)]) hx hb dX9_tells_82 rfl hl (by decide) rfl (fun ls hl => ?_)
                have L83 : ∀ (n_16 : Nat) (x2_15 : Int32) (p0_0_15 : Fn) (Ω_17 : Om) (H : Heap) (locs : List Loc), (0 ≤ x2_15.toInt ∧ x2_15.toInt ≤ 93 ∧ 93 - x2_15.toInt < n_16) → (∀ j : Nat, (j : Int) < x2_15.toInt → p0_0_15 j = p0_1_9 j) → inMod G Ω_17 p0 p0_0_15 p0_1_9 p0_2 p0_3 p0_4 p0_5 p0_6 p0_7 p0_8 p0_9_9 p0_10_9 p0_11_9 p0_12_9 p0_13_9 → (∀ q : Nat, (q < p0 ∨ p0 + 8 ≤ q) → Ω_17 q = Ω q) → oW G A Ω_17 H → va_S A s.heap H locs → ∀ ls : Array Slot, lv_has ls 3 [(0, .ref p0), (1, .int x1_9), (2, .int x2_15)] → (f_X9_tells_L83 p0_1_9 p0_2 p0_6 p0_9_9 p0_10_9 p0_11_9 p0_12_9 p0_13_9 x1_9 n_16 x2_15 p0_0_15) = R → W p l e (headSpec (wz yX9_tells cX9_tells 3 (some .int)) ({ frames := 7, cells := 0, slots := 0, locals := 158 } : Room)).room s m ([.ref p0] : List Value).toArray below meth c H locs 0 0 (MQ below (va_Qi (fun (r : Int32) (Ω1 : Om) => r = R.1 ∧ inMod G Ω1 p0 (R.2.1) (R.2.2.1) (R.2.2.2.1) p0_3 (R.2.2.2.2.1) p0_5 (R.2.2.2.2.2.1) p0_7 (R.2.2.2.2.2.2.1) (R.2.2.2.2.2.2.2.1) (R.2.2.2.2.2.2.2.2.1) (R.2.2.2.2.2.2.2.2.2.1) (R.2.2.2.2.2.2.2.2.2.2.1) (R.2.2.2.2.2.2.2.2.2.2.2) ∧ (∀ q : Nat, (q < p0 ∨ p0 + 8 ≤ q) → Ω1 q = Ω q)) (oB G A) A) ([.ref p0] : List Value).toArray s 0 0 A) (F0 m 83 ls []) := by
                  intro n_16
                  induction n_16 with
                  | zero =>
                    intro x2_15 p0_0_15 Ω_17 H locs v_83_0 v_83_1 h_p0 hE hW hS ls hl hR
                    exfalso
                    omega
                  | succ n_16 ih83 =>
                    intro x2_15 p0_0_15 Ω_17 H locs v_83_0 v_83_1 h_p0 hE hW hS ls hl hR
                    rw [f_X9_tells_L83] at hR
                    refine lv_iload_n hx hb dX9_tells_83 rfl (lv_at hl 2 rfl) ?_
                    refine lv_bipush (v := (93 : Int32)) hx hb dX9_tells_84 (by decide) ?_
                    refine lv_icmp_ge (tgt := 107) hx hb dX9_tells_86 (by decide) (fun c_18 => ?_) (fun c_18 => ?_)
                    · rw [if_pos c_18] at hR
                      have i_18 := rle c_18
                      refine lv_aload_n hx hb dX9_tells_107 rfl (lv_at hl 0 rfl) ?_
                      refine lv_iconst (v := (0 : Int32)) hx hb dX9_tells_108 (by decide) ?_
                      refine vMod_8 hx hb hts hown hK hW hS hA h_p0 fl_X9_147 dX9_tells_109 (fun Ω_19 H locs h_p0 hF_19 hW hS => ?_)
                      have hE : ∀ q : Nat, (q < p0 ∨ p0 + 8 ≤ q) → Ω_19 q = Ω q := fun q g0 => (hF_19 q (by omega)).trans (hE q g0)
                      refine lv_aload_n hx hb dX9_tells_112 rfl (lv_at hl 0 rfl) ?_
                      have hM9 : ToldInv p0_0_15 := TI_cong (show DraftInv p0_1_9 by assumption).1 (fun j hj => v_83_1 j (by omega))
                      refine o_Vv (rest := []) (As := []) (n := 0) hx hb hml hown hts hK hN hZ hW hS hA (c_X9_begin l G A Ω_19 p0 p0_0_15 p0_1_9 p0_2 p0_3 p0_4 p0_5 p0_6 p0_7 (0 : Int32) p0_9_9 p0_10_9 p0_11_9 p0_12_9 p0_13_9 (by assumption) h_p0) (inMod_o h_p0) rfl (good_V ml_X9_32 im_X9_begin se_X9_begin ini_X9 co_X9_begin) (by decide +kernel) ⟨Nat.zero_le _, Nat.zero_le _⟩ hl.1 (Nat.le_of_ble_eq_true rfl) rfl rfl dX9_tells_113 (fun Ω_20 H locs hp hW hS => ?_)
                      obtain ⟨h_p0, hF_20⟩ := hp
                      have hE : ∀ q : Nat, (q < p0 ∨ p0 + 8 ≤ q) → Ω_20 q = Ω q := fun q g0 => (hF_20 q (by omega)).trans (hE q g0)
                      generalize (f_X9_begin p0_0_15 p0_2 p0_6) = Z_20 at h_p0 hR
                      obtain ⟨z20_0, z20_1, z20_2⟩ := Z_20
                      dsimp only at h_p0 hR
                      rw [f_X9_tells_C116] at hR
                      refine lv_iload_n hx hb dX9_tells_116 rfl (lv_at hl 1 rfl) ?_
                      subst hR
                      exact W.iret (v := x1_9) hx hb hr (fun t ht hW9 => ⟨⟨x1_9, Ω_20, rfl, ⟨rfl, h_p0, hE⟩, by rw [oB, ht]; exact hW⟩, hS.F ht⟩) hS.2.2 dX9_tells_117
                    · rw [if_neg c_18] at hR
                      have i_18 := rnle c_18
                      refine lv_aload_n hx hb dX9_tells_89 rfl (lv_at hl 0 rfl) ?_
                      refine o_get hx hb hts hown hK hW (inMod_o h_p0) rfl ig9 0 (by decide) fl_X9_7 rfl dX9_tells_90 ?_
                      refine lv_iload_n hx hb dX9_tells_93 rfl (lv_at hl 2 rfl) ?_
                      refine lv_aload_n hx hb dX9_tells_94 rfl (lv_at hl 0 rfl) ?_
                      refine o_get hx hb hts hown hK hW (inMod_o h_p0) rfl ig9 1 (by decide) fl_X9_13 rfl dX9_tells_95 ?_
                      refine lv_iload_n hx hb dX9_tells_98 rfl (lv_at hl 2 rfl) ?_
                      refine o_iald hx hb hK hW (inMod_a1 h_p0) (vp_in_iff.mpr ⟨by omega, by omega⟩) dX9_tells_99 ?_
                      refine wMod_0 hx hb hK hW hS hA h_p0 (vp_in_iff.mpr ⟨by omega, by omega⟩) dX9_tells_100 (fun Ω_21 H locs h_p0 hF_21 hW hS => ?_)
                      have hE : ∀ q : Nat, (q < p0 ∨ p0 + 8 ≤ q) → Ω_21 q = Ω q := fun q g0 => (hF_21 q (by omega)).trans (hE q g0)
                      refine lv_iinc (v := (x2_15 + (1 : Int32))) (lv' := [(2, .int (x2_15 + (1 : Int32))), (0, .ref p0), (1, .int x1_9)]) hx hb dX9_tells_101 hl (k := 2) rfl rfl (by decide) rfl (fun ls hl => ?_)
                      refine lv_goto (tgt := 83) hx hb dX9_tells_104 (by decide) ?_
                      have j_22 : (1 : Int32).toInt = 1 := by decide
                      try have j_23 : (x2_15 + (1 : Int32)).toInt = x2_15.toInt + (1 : Int32).toInt := fb_addI (by omega) (by omega)
                      have qc : ∀ j : Nat, (j : Int) < (x2_15 + (1 : Int32)).toInt → (upd p0_0_15 x2_15.toNatClampNeg (p0_1_9 x2_15.toNatClampNeg)) j = p0_1_9 j := by first | exact cp_0 | exact cp_s (by assumption) (by omega) (by omega)
                      exact ih83 (x2_15 + (1 : Int32)) (upd p0_0_15 x2_15.toNatClampNeg (p0_1_9 x2_15.toNatClampNeg)) Ω_21 H locs (by omega) (by assumption) h_p0 hE hW hS ls (lv_sub hl [1, 2, 0] rfl) hR
                have j_24 : (0 : Int32).toInt = 0 := by decide
                have qc : ∀ j : Nat, (j : Int) < (0 : Int32).toInt → p0_0 j = p0_1_9 j := by first | exact cp_0 | exact cp_s (by assumption) (by omega) (by omega)
                exact L83 4000 (0 : Int32) p0_0 Ω_11 H locs (by omega) (by assumption) h_p0 hE hW hS ls (lv_sub hl [1, 2, 0] rfl) hR
              · rw [if_neg c_13] at hR
                have i_13 := rne c_13
                refine lv_bipush (v := (-10 : Int32)) hx hb dX9_tells_73 (by decide) ?_
                refine lv_aload_n hx hb dX9_tells_75 rfl (lv_at hl 0 rfl) ?_
                refine o_get hx hb hts hown hK hW (inMod_o h_p0) rfl ig9 13 (by decide) fl_X9_169 rfl dX9_tells_76 ?_
                refine lv_isub hx hb dX9_tells_79 ?_
                subst hR
                exact W.iret (v := ((-10 : Int32) - p0_13_9)) hx hb hr (fun t ht hW9 => ⟨⟨((-10 : Int32) - p0_13_9), Ω_11, rfl, ⟨rfl, h_p0, hE⟩, by rw [oB, ht]; exact hW⟩, hS.F ht⟩) hS.2.2 dX9_tells_80
            have j_26 : (-9 : Int32).toInt = -9 := by decide
            refine lv_icmp_ne (tgt := 64) hx hb dX9_tells_44 (by decide) (fun c_25 => ?_) (fun c_25 => ?_)
            · rw [if_neg c_25] at hR
              have i_25 := rne c_25
              exact J64 H locs hW hS ls (lv_sub hl [0, 1] rfl) hR
            · rw [if_pos c_25] at hR
              have i_25 := congrArg Int32.toInt c_25
              refine lv_aload_n hx hb dX9_tells_47 rfl (lv_at hl 0 rfl) ?_
              refine o_get hx hb hts hown hK hW (inMod_o h_p0) rfl ig9 11 (by decide) fl_X9_162 rfl dX9_tells_48 ?_
              have j_28 : (0 : Int32).toInt = 0 := by decide
              refine lv_if_eq (tgt := 64) hx hb dX9_tells_51 (by decide) (fun c_27 => ?_) (fun c_27 => ?_)
              · rw [if_pos c_27] at hR
                have i_27 := congrArg Int32.toInt c_27
                exact J64 H locs hW hS ls (lv_sub hl [0, 1] rfl) hR
              · rw [if_neg c_27] at hR
                have i_27 := rne c_27
                refine lv_aload_n hx hb dX9_tells_54 rfl (lv_at hl 0 rfl) ?_
                refine o_Vv (rest := []) (As := []) (n := 0) hx hb hml hown hts hK hN hZ hW hS hA (c_X9_readItem l G A Ω_11 p0 p0_0 p0_1_9 p0_2 p0_3 p0_4 p0_5 p0_6 p0_7 p0_8 p0_9_9 p0_10_9 p0_11_9 p0_12_9 p0_13_9 (by omega) (by omega) (by omega) (by assumption) h_p0) (inMod_o h_p0) rfl (good_V ml_X9_197 im_X9_readItem se_X9_readItem ini_X9 co_X9_readItem) (by decide +kernel) ⟨Nat.zero_le _, Nat.zero_le _⟩ hl.1 (Nat.le_of_ble_eq_true rfl) rfl rfl dX9_tells_55 (fun Ω_29 H locs hp hW hS => ?_)
                obtain ⟨h_p0, hF_29⟩ := hp
                have hE : ∀ q : Nat, (q < p0 ∨ p0 + 8 ≤ q) → Ω_29 q = Ω q := fun q g0 => (hF_29 q (by omega)).trans (hE q g0)
                have qd_29 : DraftInv (f_X9_readItem p0_1_9 p0_7 p0_8 p0_9_9 p0_10_9 p0_11_9 p0_12_9 p0_13_9).1 := (RM_readItem (by assumption) hy (by omega) (by omega)).1
                have qm_29 : p0_9_9.toInt ≤ (f_X9_readItem p0_1_9 p0_7 p0_8 p0_9_9 p0_10_9 p0_11_9 p0_12_9 p0_13_9).2.1.toInt ∧ (f_X9_readItem p0_1_9 p0_7 p0_8 p0_9_9 p0_10_9 p0_11_9 p0_12_9 p0_13_9).2.1.toInt ≤ p0_8.toInt := (RM_readItem (by assumption) hy (by omega) (by omega)).2.1
                have qa_29 : 0 ≤ (f_X9_readItem p0_1_9 p0_7 p0_8 p0_9_9 p0_10_9 p0_11_9 p0_12_9 p0_13_9).2.2.1.toInt := (RM_readItem (by assumption) hy (by omega) (by omega)).2.2.1
                have qf_29 : (f_X9_readItem p0_1_9 p0_7 p0_8 p0_9_9 p0_10_9 p0_11_9 p0_12_9 p0_13_9).2.2.2.2.2.toInt ≠ -9 ∨ (p0_13_9.toInt = -9 ∧ ((f_X9_readItem p0_1_9 p0_7 p0_8 p0_9_9 p0_10_9 p0_11_9 p0_12_9 p0_13_9).2.2.2.1.toInt = 0 ∨ p0_9_9.toInt < (f_X9_readItem p0_1_9 p0_7 p0_8 p0_9_9 p0_10_9 p0_11_9 p0_12_9 p0_13_9).2.1.toInt)) := (RM_readItem (by assumption) hy (by omega) (by omega)).2.2.2
                generalize (f_X9_readItem p0_1_9 p0_7 p0_8 p0_9_9 p0_10_9 p0_11_9 p0_12_9 p0_13_9) = Z_29 at h_p0 hR qd_29 qm_29 qa_29 qf_29
                obtain ⟨z29_0, z29_1, z29_2, z29_3, z29_4, z29_5⟩ := Z_29
                dsimp only at h_p0 hR qd_29 qm_29 qa_29 qf_29
                rw [f_X9_tells_C58] at hR
                refine lv_iinc (v := (x1_9 + (1 : Int32))) (lv' := [(1, .int (x1_9 + (1 : Int32))), (0, .ref p0)]) hx hb dX9_tells_58 hl (k := 1) rfl rfl (by decide) rfl (fun ls hl => ?_)
                refine lv_goto (tgt := 38) hx hb dX9_tells_61 (by decide) ?_
                have j_30 : (1 : Int32).toInt = 1 := by decide
                try have j_31 : (x1_9 + (1 : Int32)).toInt = x1_9.toInt + (1 : Int32).toInt := fb_addI (by omega) (by omega)
                have qD : DraftInv z29_0 := by first | assumption | exact DI_zero (fun j hj => v_2_1 j (by omega))
                exact ih38 (x1_9 + (1 : Int32)) z29_0 z29_1 z29_2 z29_3 z29_4 z29_5 Ω_29 H locs (by assumption) (by omega) (by omega) (by omega) h_p0 hE hW hS ls (lv_sub hl [1, 0] rfl) hR
        have j_32 : (0 : Int32).toInt = 0 := by decide
        have j_33 : (-9 : Int32).toInt = -9 := by decide
        have qD : DraftInv p0_1_1 := by first | assumption | exact DI_zero (fun j hj => v_2_1 j (by omega))
        exact L38 4000 (0 : Int32) p0_1_1 ((f_X9_next p0_7 p0_8 (0 : Int32)).1) ((f_X9_next p0_7 p0_8 (0 : Int32)).2.1) ((f_X9_next p0_7 p0_8 (0 : Int32)).2.2.1) ((f_X9_next p0_7 p0_8 (0 : Int32)).2.2.2) (-9 : Int32) Ω_8 H locs (by assumption) (by omega) (by omega) (by omega) h_p0 hE hW hS ls (lv_sub hl [1, 0] rfl) hR
      · rw [if_neg c_4] at hR
        have i_4 := rnle c_4
        refine lv_aload_n hx hb dX9_tells_8 rfl (lv_at hl 0 rfl) ?_
        refine o_get hx hb hts hown hK hW (inMod_o h_p0) rfl ig9 1 (by decide) fl_X9_13 rfl dX9_tells_9 ?_
        refine lv_iload_n hx hb dX9_tells_12 rfl (lv_at hl 1 rfl) ?_
        refine lv_iconst (v := (0 : Int32)) hx hb dX9_tells_13 (by decide) ?_
        refine wMod_1 hx hb hK hW hS hA h_p0 (vp_in_iff.mpr ⟨by omega, by omega⟩) dX9_tells_14 (fun Ω_34 H locs h_p0 hF_34 hW hS => ?_)
        have hE : ∀ q : Nat, (q < p0 ∨ p0 + 8 ≤ q) → Ω_34 q = Ω q := fun q g0 => (hF_34 q (by omega)).trans (hE q g0)
        refine lv_iinc (v := (x1_1 + (1 : Int32))) (lv' := [(1, .int (x1_1 + (1 : Int32))), (0, .ref p0)]) hx hb dX9_tells_15 hl (k := 1) rfl rfl (by decide) rfl (fun ls hl => ?_)
        refine lv_goto (tgt := 2) hx hb dX9_tells_18 (by decide) ?_
        have j_35 : (1 : Int32).toInt = 1 := by decide
        try have j_36 : (x1_1 + (1 : Int32)).toInt = x1_1.toInt + (1 : Int32).toInt := fb_addI (by omega) (by omega)
        have qz : ∀ j : Nat, (j : Int) < (x1_1 + (1 : Int32)).toInt → (upd p0_1_1 x1_1.toNatClampNeg (0 : Int32)) j = 0 := by first | exact zf_0 | exact zf_s (by assumption) (by omega) (by omega)
        exact ih2 (x1_1 + (1 : Int32)) (upd p0_1_1 x1_1.toNatClampNeg (0 : Int32)) Ω_34 H locs (by omega) (by assumption) h_p0 hE hW hS ls (lv_sub hl [1, 0] rfl) hR
  have j_37 : (0 : Int32).toInt = 0 := by decide
  have qz : ∀ j : Nat, (j : Int) < (0 : Int32).toInt → p0_1 j = 0 := by first | exact zf_0 | exact zf_s (by assumption) (by omega) (by omega)
  exact L2 4000 (0 : Int32) p0_1 Ω s.heap [] (by omega) (by assumption) h_p0 hE hW hS ls (lv_sub hl [1, 0] rfl) hR
