theorem dX9_init_0 : decode cX9_init 0 = .ok (.aload_n 0, 1) := by decide +kernel
theorem dX9_init_1 : decode cX9_init 1 = .ok (.invokespecial 1, 3) := by decide +kernel
theorem dX9_init_4 : decode cX9_init 4 = .ok (.aload_n 0, 1) := by decide +kernel
theorem dX9_init_5 : decode cX9_init 5 = .ok (.bipush 93, 2) := by decide +kernel
theorem dX9_init_7 : decode cX9_init 7 = .ok (.newarray .int, 2) := by decide +kernel
theorem dX9_init_9 : decode cX9_init 9 = .ok (.putfield 7, 3) := by decide +kernel
theorem dX9_init_12 : decode cX9_init 12 = .ok (.aload_n 0, 1) := by decide +kernel
theorem dX9_init_13 : decode cX9_init 13 = .ok (.bipush 93, 2) := by decide +kernel
theorem dX9_init_15 : decode cX9_init 15 = .ok (.newarray .int, 2) := by decide +kernel
theorem dX9_init_17 : decode cX9_init 17 = .ok (.putfield 13, 3) := by decide +kernel
theorem dX9_init_20 : decode cX9_init 20 = .ok (.aload_n 0, 1) := by decide +kernel
theorem dX9_init_21 : decode cX9_init 21 = .ok (.sipush 171, 3) := by decide +kernel
theorem dX9_init_24 : decode cX9_init 24 = .ok (.newarray .int, 2) := by decide +kernel
theorem dX9_init_26 : decode cX9_init 26 = .ok (.putfield 16, 3) := by decide +kernel
theorem dX9_init_29 : decode cX9_init 29 = .ok (.aload_n 0, 1) := by decide +kernel
theorem dX9_init_30 : decode cX9_init 30 = .ok (.sipush 810, 3) := by decide +kernel
theorem dX9_init_33 : decode cX9_init 33 = .ok (.newarray .int, 2) := by decide +kernel
theorem dX9_init_35 : decode cX9_init 35 = .ok (.putfield 19, 3) := by decide +kernel
theorem dX9_init_38 : decode cX9_init 38 = .ok (.aload_n 0, 1) := by decide +kernel
theorem dX9_init_39 : decode cX9_init 39 = .ok (.sipush 270, 3) := by decide +kernel
theorem dX9_init_42 : decode cX9_init 42 = .ok (.newarray .int, 2) := by decide +kernel
theorem dX9_init_44 : decode cX9_init 44 = .ok (.putfield 22, 3) := by decide +kernel
theorem dX9_init_47 : decode cX9_init 47 = .ok (.aload_n 0, 1) := by decide +kernel
theorem dX9_init_48 : decode cX9_init 48 = .ok (.iconst 2, 1) := by decide +kernel
theorem dX9_init_49 : decode cX9_init 49 = .ok (.newarray .boolean, 2) := by decide +kernel
theorem dX9_init_51 : decode cX9_init 51 = .ok (.putfield 25, 3) := by decide +kernel
theorem dX9_init_54 : decode cX9_init 54 = .ok (.aload_n 0, 1) := by decide +kernel
theorem dX9_init_55 : decode cX9_init 55 = .ok (.sipush 160, 3) := by decide +kernel
theorem dX9_init_58 : decode cX9_init 58 = .ok (.newarray .int, 2) := by decide +kernel
theorem dX9_init_60 : decode cX9_init 60 = .ok (.putfield 29, 3) := by decide +kernel
theorem dX9_init_63 : decode cX9_init 63 = .ok (.aload_n 0, 1) := by decide +kernel
theorem dX9_init_64 : decode cX9_init 64 = .ok (.invokevirtual 32, 3) := by decide +kernel
theorem dX9_init_67 : decode cX9_init 67 = .ok (.return_, 1) := by decide +kernel
set_option maxHeartbeats 4000000 in
set_option maxRecDepth 100000 in
theorem c_X9_init (l : Launch) (G : Gm) (A : Nat → Prop) (Ω : Om) (p0 : Nat) (hA0 : ∀ q, p0 ≤ q → A q) (k_0 : Ω p0 = some (.inr (9, [.null, .null, .null, .null, .int 0, .null, .null, .null, .int 0, .int 0, .int 0, .int 0, .int 0, .int 0]))) : Met l yX9_init (wz yX9_init cX9_init 1 none) ({ frames := 3, cells := 7, slots := 1599, locals := 62 } : Room) (va_Pc [.ref p0] (oP G A Ω (p0 + 1))) (va_Qv (fun Ω1 : Om => inMod G Ω1 p0 (fun _ => 0) (fun _ => 0) ((f_X9_begin (fun _ => 0) (fun _ => 0) (fun _ => 0)).1) (fun _ => 0) ((f_X9_begin (fun _ => 0) (fun _ => 0) (fun _ => 0)).2.1) (fun _ => 0) ((f_X9_begin (fun _ => 0) (fun _ => 0) (fun _ => 0)).2.2) (fun _ => 0) 0 0 0 0 0 0 ∧ ∀ q : Nat, q < p0 → Ω1 q = Ω q) (oB G A) A) 7 1599 A := by
  refine Met.ofW (cc := cX9_init) (maxL := 1) (ret := none) (by decide) rfl ?_
  intro p e s m args below meth c s₁ B hml hv
  obtain ⟨rfl, ⟨hW, hK, hN, hZ⟩, hO, hz⟩ := hv
  have hx := B.exec
  have hb := B.bytes
  have hr := B.returns
  have hin : meth.name = "<init>" := (name_of_methodNamed B.named B.method).1
  have hts : ∀ w ∈ gt, w.before _ s = true := fun w hw => atoms_spec (ws := wz yX9_init cX9_init 1 none) B.pre w (List.mem_cons_of_mem _ hw)
  have hown : s.vm.findClass RX9 = some m.cls := findClass_of_methodNamed B.named
  have hlocks := B.notSynchronized
  have hA : ∀ q, A q → A q := fun _ h => h
  have hS : va_S A s.heap s.heap [] := va_S.rf
  have hl := lv_entry ([.ref p0]) (n := 1) (Nat.le_of_ble_eq_true rfl)
  rw [lg_entry_eq]
  generalize (lg_sl ([.ref p0]) ++ List.replicate (1 - (lg_sl ([.ref p0])).length) Slot.unset).toArray = ls at hl ⊢
  have hl : lv_has ls 1 [(0, .ref p0)] := hl
  have hE : ∀ q : Nat, q < p0 → Ω q = Ω q := fun _ _ => rfl
  refine lv_aload_n hx hb dX9_init_0 rfl (lv_at hl 0 rfl) ?_
  refine o_oI hx hb hown hts mo_X9 (hl.1.trans hml.symm) dX9_init_1 (Nat.le_of_ble_eq_true rfl) (Nat.le_of_ble_eq_true rfl) ?_
  refine lv_aload_n hx hb dX9_init_4 rfl (lv_at hl 0 rfl) ?_
  refine lv_bipush (v := (93 : Int32)) hx hb dX9_init_5 (by decide) ?_
  refine o_newI (N := 93) (h := (p0 + 1)) hx hb hts hK hW hS (hA0 _ (by omega)) (by decide) (by decide) (by decide) (Nat.le_of_ble_eq_true rfl) (Nat.le_of_ble_eq_true rfl) dX9_init_7 hz ?_
  clear hW hS hz
  intro Ω_1 H k_1 hF_1 hW hz hS
  replace hz : H.size = p0 + 2 := hz
  replace k_0 := (hF_1 p0 (by omega)).trans k_0
  replace hE : ∀ q : Nat, q < p0 → Ω_1 q = Ω q := fun q h => (hF_1 q (by omega)).trans (hE q h)
  clear hF_1
  refine o_putF hx hb hts hown hK hW hS hA k_0 rfl ig9 tyX9 tyX9_ok nmX9 0 (by decide) fl_X9_7 rfl hin rfl (ty := .array .int) (by decide +kernel) rfl rfl (Nat.le_of_ble_eq_true rfl) dX9_init_9 ?_
  clear hW hS
  intro Ω_2 H locs k_0 hF_2 hW hz1 hS
  replace hz := hz1.trans hz
  clear hz1
  replace k_0 : Ω_2 p0 = some (.inr (9, [.ref (p0 + 1), .null, .null, .null, .int 0, .null, .null, .null, .int 0, .int 0, .int 0, .int 0, .int 0, .int 0])) := k_0
  replace k_1 := (hF_2 (p0 + 1) (by omega)).trans k_1
  replace hE : ∀ q : Nat, q < p0 → Ω_2 q = Ω q := fun q h => (hF_2 q (by omega)).trans (hE q h)
  clear hF_2
  refine lv_aload_n hx hb dX9_init_12 rfl (lv_at hl 0 rfl) ?_
  refine lv_bipush (v := (93 : Int32)) hx hb dX9_init_13 (by decide) ?_
  refine o_newI (N := 93) (h := (p0 + 2)) hx hb hts hK hW hS (hA0 _ (by omega)) (by decide) (by decide) (by decide) (Nat.le_of_ble_eq_true rfl) (Nat.le_of_ble_eq_true rfl) dX9_init_15 hz ?_
  clear hW hS hz
  intro Ω_3 H k_2 hF_3 hW hz hS
  replace hz : H.size = p0 + 3 := hz
  replace k_0 := (hF_3 p0 (by omega)).trans k_0
  replace k_1 := (hF_3 (p0 + 1) (by omega)).trans k_1
  replace hE : ∀ q : Nat, q < p0 → Ω_3 q = Ω q := fun q h => (hF_3 q (by omega)).trans (hE q h)
  clear hF_3
  refine o_putF hx hb hts hown hK hW hS hA k_0 rfl ig9 tyX9 tyX9_ok nmX9 1 (by decide) fl_X9_13 rfl hin rfl (ty := .array .int) (by decide +kernel) rfl rfl (Nat.le_of_ble_eq_true rfl) dX9_init_17 ?_
  clear hW hS
  intro Ω_4 H locs k_0 hF_4 hW hz1 hS
  replace hz := hz1.trans hz
  clear hz1
  replace k_0 : Ω_4 p0 = some (.inr (9, [.ref (p0 + 1), .ref (p0 + 2), .null, .null, .int 0, .null, .null, .null, .int 0, .int 0, .int 0, .int 0, .int 0, .int 0])) := k_0
  replace k_1 := (hF_4 (p0 + 1) (by omega)).trans k_1
  replace k_2 := (hF_4 (p0 + 2) (by omega)).trans k_2
  replace hE : ∀ q : Nat, q < p0 → Ω_4 q = Ω q := fun q h => (hF_4 q (by omega)).trans (hE q h)
  clear hF_4
  refine lv_aload_n hx hb dX9_init_20 rfl (lv_at hl 0 rfl) ?_
  refine lv_sipush (v := (171 : Int32)) hx hb dX9_init_21 (by decide) ?_
  refine o_newI (N := 171) (h := (p0 + 3)) hx hb hts hK hW hS (hA0 _ (by omega)) (by decide) (by decide) (by decide) (Nat.le_of_ble_eq_true rfl) (Nat.le_of_ble_eq_true rfl) dX9_init_24 hz ?_
  clear hW hS hz
  intro Ω_5 H k_3 hF_5 hW hz hS
  replace hz : H.size = p0 + 4 := hz
  replace k_0 := (hF_5 p0 (by omega)).trans k_0
  replace k_1 := (hF_5 (p0 + 1) (by omega)).trans k_1
  replace k_2 := (hF_5 (p0 + 2) (by omega)).trans k_2
  replace hE : ∀ q : Nat, q < p0 → Ω_5 q = Ω q := fun q h => (hF_5 q (by omega)).trans (hE q h)
  clear hF_5
  refine o_putF hx hb hts hown hK hW hS hA k_0 rfl ig9 tyX9 tyX9_ok nmX9 2 (by decide) fl_X9_16 rfl hin rfl (ty := .array .int) (by decide +kernel) rfl rfl (Nat.le_of_ble_eq_true rfl) dX9_init_26 ?_
  clear hW hS
  intro Ω_6 H locs k_0 hF_6 hW hz1 hS
  replace hz := hz1.trans hz
  clear hz1
  replace k_0 : Ω_6 p0 = some (.inr (9, [.ref (p0 + 1), .ref (p0 + 2), .ref (p0 + 3), .null, .int 0, .null, .null, .null, .int 0, .int 0, .int 0, .int 0, .int 0, .int 0])) := k_0
  replace k_1 := (hF_6 (p0 + 1) (by omega)).trans k_1
  replace k_2 := (hF_6 (p0 + 2) (by omega)).trans k_2
  replace k_3 := (hF_6 (p0 + 3) (by omega)).trans k_3
  replace hE : ∀ q : Nat, q < p0 → Ω_6 q = Ω q := fun q h => (hF_6 q (by omega)).trans (hE q h)
  clear hF_6
  refine lv_aload_n hx hb dX9_init_29 rfl (lv_at hl 0 rfl) ?_
  refine lv_sipush (v := (810 : Int32)) hx hb dX9_init_30 (by decide) ?_
  refine o_newI (N := 810) (h := (p0 + 4)) hx hb hts hK hW hS (hA0 _ (by omega)) (by decide) (by decide) (by decide) (Nat.le_of_ble_eq_true rfl) (Nat.le_of_ble_eq_true rfl) dX9_init_33 hz ?_
  clear hW hS hz
  intro Ω_7 H k_4 hF_7 hW hz hS
  replace hz : H.size = p0 + 5 := hz
  replace k_0 := (hF_7 p0 (by omega)).trans k_0
  replace k_1 := (hF_7 (p0 + 1) (by omega)).trans k_1
  replace k_2 := (hF_7 (p0 + 2) (by omega)).trans k_2
  replace k_3 := (hF_7 (p0 + 3) (by omega)).trans k_3
  replace hE : ∀ q : Nat, q < p0 → Ω_7 q = Ω q := fun q h => (hF_7 q (by omega)).trans (hE q h)
  clear hF_7
  refine o_putF hx hb hts hown hK hW hS hA k_0 rfl ig9 tyX9 tyX9_ok nmX9 3 (by decide) fl_X9_19 rfl hin rfl (ty := .array .int) (by decide +kernel) rfl rfl (Nat.le_of_ble_eq_true rfl) dX9_init_35 ?_
  clear hW hS
  intro Ω_8 H locs k_0 hF_8 hW hz1 hS
  replace hz := hz1.trans hz
  clear hz1
  replace k_0 : Ω_8 p0 = some (.inr (9, [.ref (p0 + 1), .ref (p0 + 2), .ref (p0 + 3), .ref (p0 + 4), .int 0, .null, .null, .null, .int 0, .int 0, .int 0, .int 0, .int 0, .int 0])) := k_0
  replace k_1 := (hF_8 (p0 + 1) (by omega)).trans k_1
  replace k_2 := (hF_8 (p0 + 2) (by omega)).trans k_2
  replace k_3 := (hF_8 (p0 + 3) (by omega)).trans k_3
  replace k_4 := (hF_8 (p0 + 4) (by omega)).trans k_4
  replace hE : ∀ q : Nat, q < p0 → Ω_8 q = Ω q := fun q h => (hF_8 q (by omega)).trans (hE q h)
  clear hF_8
  refine lv_aload_n hx hb dX9_init_38 rfl (lv_at hl 0 rfl) ?_
  refine lv_sipush (v := (270 : Int32)) hx hb dX9_init_39 (by decide) ?_
  refine o_newI (N := 270) (h := (p0 + 5)) hx hb hts hK hW hS (hA0 _ (by omega)) (by decide) (by decide) (by decide) (Nat.le_of_ble_eq_true rfl) (Nat.le_of_ble_eq_true rfl) dX9_init_42 hz ?_
  clear hW hS hz
  intro Ω_9 H k_5 hF_9 hW hz hS
  replace hz : H.size = p0 + 6 := hz
  replace k_0 := (hF_9 p0 (by omega)).trans k_0
  replace k_1 := (hF_9 (p0 + 1) (by omega)).trans k_1
  replace k_2 := (hF_9 (p0 + 2) (by omega)).trans k_2
  replace k_3 := (hF_9 (p0 + 3) (by omega)).trans k_3
  replace k_4 := (hF_9 (p0 + 4) (by omega)).trans k_4
  replace hE : ∀ q : Nat, q < p0 → Ω_9 q = Ω q := fun q h => (hF_9 q (by omega)).trans (hE q h)
  clear hF_9
  refine o_putF hx hb hts hown hK hW hS hA k_0 rfl ig9 tyX9 tyX9_ok nmX9 5 (by decide) fl_X9_22 rfl hin rfl (ty := .array .int) (by decide +kernel) rfl rfl (Nat.le_of_ble_eq_true rfl) dX9_init_44 ?_
  clear hW hS
  intro Ω_10 H locs k_0 hF_10 hW hz1 hS
  replace hz := hz1.trans hz
  clear hz1
  replace k_0 : Ω_10 p0 = some (.inr (9, [.ref (p0 + 1), .ref (p0 + 2), .ref (p0 + 3), .ref (p0 + 4), .int 0, .ref (p0 + 5), .null, .null, .int 0, .int 0, .int 0, .int 0, .int 0, .int 0])) := k_0
  replace k_1 := (hF_10 (p0 + 1) (by omega)).trans k_1
  replace k_2 := (hF_10 (p0 + 2) (by omega)).trans k_2
  replace k_3 := (hF_10 (p0 + 3) (by omega)).trans k_3
  replace k_4 := (hF_10 (p0 + 4) (by omega)).trans k_4
  replace k_5 := (hF_10 (p0 + 5) (by omega)).trans k_5
  replace hE : ∀ q : Nat, q < p0 → Ω_10 q = Ω q := fun q h => (hF_10 q (by omega)).trans (hE q h)
  clear hF_10
  refine lv_aload_n hx hb dX9_init_47 rfl (lv_at hl 0 rfl) ?_
  refine lv_iconst (v := (2 : Int32)) hx hb dX9_init_48 (by decide) ?_
  refine o_newZ (N := 2) (h := (p0 + 6)) hx hb hts hK hW hS (hA0 _ (by omega)) (by decide) (by decide) (by decide) (Nat.le_of_ble_eq_true rfl) (Nat.le_of_ble_eq_true rfl) dX9_init_49 hz ?_
  clear hW hS hz
  intro Ω_11 H k_6 hF_11 hW hz hS
  replace hz : H.size = p0 + 7 := hz
  replace k_0 := (hF_11 p0 (by omega)).trans k_0
  replace k_1 := (hF_11 (p0 + 1) (by omega)).trans k_1
  replace k_2 := (hF_11 (p0 + 2) (by omega)).trans k_2
  replace k_3 := (hF_11 (p0 + 3) (by omega)).trans k_3
  replace k_4 := (hF_11 (p0 + 4) (by omega)).trans k_4
  replace k_5 := (hF_11 (p0 + 5) (by omega)).trans k_5
  replace hE : ∀ q : Nat, q < p0 → Ω_11 q = Ω q := fun q h => (hF_11 q (by omega)).trans (hE q h)
  clear hF_11
  refine o_putF hx hb hts hown hK hW hS hA k_0 rfl ig9 tyX9 tyX9_ok nmX9 6 (by decide) fl_X9_25 rfl hin rfl (ty := .array .boolean) (by decide +kernel) rfl rfl (Nat.le_of_ble_eq_true rfl) dX9_init_51 ?_
  clear hW hS
  intro Ω_12 H locs k_0 hF_12 hW hz1 hS
  replace hz := hz1.trans hz
  clear hz1
  replace k_0 : Ω_12 p0 = some (.inr (9, [.ref (p0 + 1), .ref (p0 + 2), .ref (p0 + 3), .ref (p0 + 4), .int 0, .ref (p0 + 5), .ref (p0 + 6), .null, .int 0, .int 0, .int 0, .int 0, .int 0, .int 0])) := k_0
  replace k_1 := (hF_12 (p0 + 1) (by omega)).trans k_1
  replace k_2 := (hF_12 (p0 + 2) (by omega)).trans k_2
  replace k_3 := (hF_12 (p0 + 3) (by omega)).trans k_3
  replace k_4 := (hF_12 (p0 + 4) (by omega)).trans k_4
  replace k_5 := (hF_12 (p0 + 5) (by omega)).trans k_5
  replace k_6 := (hF_12 (p0 + 6) (by omega)).trans k_6
  replace hE : ∀ q : Nat, q < p0 → Ω_12 q = Ω q := fun q h => (hF_12 q (by omega)).trans (hE q h)
  clear hF_12
  refine lv_aload_n hx hb dX9_init_54 rfl (lv_at hl 0 rfl) ?_
  refine lv_sipush (v := (160 : Int32)) hx hb dX9_init_55 (by decide) ?_
  refine o_newI (N := 160) (h := (p0 + 7)) hx hb hts hK hW hS (hA0 _ (by omega)) (by decide) (by decide) (by decide) (Nat.le_of_ble_eq_true rfl) (Nat.le_of_ble_eq_true rfl) dX9_init_58 hz ?_
  clear hW hS hz
  intro Ω_13 H k_7 hF_13 hW hz hS
  replace hz : H.size = p0 + 8 := hz
  replace k_0 := (hF_13 p0 (by omega)).trans k_0
  replace k_1 := (hF_13 (p0 + 1) (by omega)).trans k_1
  replace k_2 := (hF_13 (p0 + 2) (by omega)).trans k_2
  replace k_3 := (hF_13 (p0 + 3) (by omega)).trans k_3
  replace k_4 := (hF_13 (p0 + 4) (by omega)).trans k_4
  replace k_5 := (hF_13 (p0 + 5) (by omega)).trans k_5
  replace k_6 := (hF_13 (p0 + 6) (by omega)).trans k_6
  replace hE : ∀ q : Nat, q < p0 → Ω_13 q = Ω q := fun q h => (hF_13 q (by omega)).trans (hE q h)
  clear hF_13
  refine o_putF hx hb hts hown hK hW hS hA k_0 rfl ig9 tyX9 tyX9_ok nmX9 7 (by decide) fl_X9_29 rfl hin rfl (ty := .array .int) (by decide +kernel) rfl rfl (Nat.le_of_ble_eq_true rfl) dX9_init_60 ?_
  clear hW hS
  intro Ω_14 H locs k_0 hF_14 hW hz1 hS
  replace hz := hz1.trans hz
  clear hz1
  replace k_0 : Ω_14 p0 = some (.inr (9, [.ref (p0 + 1), .ref (p0 + 2), .ref (p0 + 3), .ref (p0 + 4), .int 0, .ref (p0 + 5), .ref (p0 + 6), .ref (p0 + 7), .int 0, .int 0, .int 0, .int 0, .int 0, .int 0])) := k_0
  replace k_1 := (hF_14 (p0 + 1) (by omega)).trans k_1
  replace k_2 := (hF_14 (p0 + 2) (by omega)).trans k_2
  replace k_3 := (hF_14 (p0 + 3) (by omega)).trans k_3
  replace k_4 := (hF_14 (p0 + 4) (by omega)).trans k_4
  replace k_5 := (hF_14 (p0 + 5) (by omega)).trans k_5
  replace k_6 := (hF_14 (p0 + 6) (by omega)).trans k_6
  replace k_7 := (hF_14 (p0 + 7) (by omega)).trans k_7
  replace hE : ∀ q : Nat, q < p0 → Ω_14 q = Ω q := fun q h => (hF_14 q (by omega)).trans (hE q h)
  clear hF_14
  refine lv_aload_n hx hb dX9_init_63 rfl (lv_at hl 0 rfl) ?_
  have h_p0 : inMod G Ω_14 p0 (fun _ => 0) (fun _ => 0) (fun _ => 0) (fun _ => 0) 0 (fun _ => 0) (fun _ => 0) (fun _ => 0) 0 0 0 0 0 0 := ⟨k_0, k_1, k_2, k_3, k_4, k_5, k_6, k_7⟩
  refine o_Vv (rest := []) (As := []) (n := 0) hx hb hml hown hts hK hN hZ hW hS hA (c_X9_begin l G A Ω_14 p0 (fun _ => 0) (fun _ => 0) (fun _ => 0) (fun _ => 0) 0 (fun _ => 0) (fun _ => 0) (fun _ => 0) 0 0 0 0 0 0 (DI_zero (fun j hj => rfl)).1 h_p0) k_0 rfl (good_V ml_X9_32 im_X9_begin se_X9_begin ini_X9 co_X9_begin) (by decide +kernel) ⟨Nat.le_of_ble_eq_true rfl, Nat.le_of_ble_eq_true rfl⟩ hl.1 (Nat.le_of_ble_eq_true rfl) rfl rfl dX9_init_64 ?_
  clear hW hS
  intro Ω_15 H locs hp hW hS
  obtain ⟨h_p0, hF_15⟩ := hp
  replace hE : ∀ q : Nat, q < p0 → Ω_15 q = Ω q := fun q h => (hF_15 q (by omega)).trans (hE q h)
  exact W.vret hx hb hr (fun t ht hW9 => ⟨⟨Ω_15, rfl, ⟨h_p0, hE⟩, by rw [oB, ht]; exact hW⟩, hS.F ht⟩) hS.2.2 dX9_init_67
