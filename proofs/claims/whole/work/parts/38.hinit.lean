theorem dX8_init_0 : decode cX8_init 0 = .ok (.aload_n 0, 1) := by decide +kernel
theorem dX8_init_1 : decode cX8_init 1 = .ok (.invokespecial 1, 3) := by decide +kernel
theorem dX8_init_4 : decode cX8_init 4 = .ok (.aload_n 0, 1) := by decide +kernel
theorem dX8_init_5 : decode cX8_init 5 = .ok (.new 7, 3) := by decide +kernel
theorem dX8_init_8 : decode cX8_init 8 = .ok (.dup, 1) := by decide +kernel
theorem dX8_init_9 : decode cX8_init 9 = .ok (.invokespecial 9, 3) := by decide +kernel
theorem dX8_init_12 : decode cX8_init 12 = .ok (.putfield 10, 3) := by decide +kernel
theorem dX8_init_15 : decode cX8_init 15 = .ok (.aload_n 0, 1) := by decide +kernel
theorem dX8_init_16 : decode cX8_init 16 = .ok (.new 16, 3) := by decide +kernel
theorem dX8_init_19 : decode cX8_init 19 = .ok (.dup, 1) := by decide +kernel
theorem dX8_init_20 : decode cX8_init 20 = .ok (.aload_n 0, 1) := by decide +kernel
theorem dX8_init_21 : decode cX8_init 21 = .ok (.getfield 10, 3) := by decide +kernel
theorem dX8_init_24 : decode cX8_init 24 = .ok (.invokespecial 18, 3) := by decide +kernel
theorem dX8_init_27 : decode cX8_init 27 = .ok (.putfield 21, 3) := by decide +kernel
theorem dX8_init_30 : decode cX8_init 30 = .ok (.aload_n 0, 1) := by decide +kernel
theorem dX8_init_31 : decode cX8_init 31 = .ok (.new 25, 3) := by decide +kernel
theorem dX8_init_34 : decode cX8_init 34 = .ok (.dup, 1) := by decide +kernel
theorem dX8_init_35 : decode cX8_init 35 = .ok (.invokespecial 27, 3) := by decide +kernel
theorem dX8_init_38 : decode cX8_init 38 = .ok (.putfield 28, 3) := by decide +kernel
theorem dX8_init_41 : decode cX8_init 41 = .ok (.aload_n 0, 1) := by decide +kernel
theorem dX8_init_42 : decode cX8_init 42 = .ok (.new 32, 3) := by decide +kernel
theorem dX8_init_45 : decode cX8_init 45 = .ok (.dup, 1) := by decide +kernel
theorem dX8_init_46 : decode cX8_init 46 = .ok (.invokespecial 34, 3) := by decide +kernel
theorem dX8_init_49 : decode cX8_init 49 = .ok (.putfield 35, 3) := by decide +kernel
theorem dX8_init_52 : decode cX8_init 52 = .ok (.aload_n 0, 1) := by decide +kernel
theorem dX8_init_53 : decode cX8_init 53 = .ok (.iconst 2, 1) := by decide +kernel
theorem dX8_init_54 : decode cX8_init 54 = .ok (.anewarray 25, 3) := by decide +kernel
theorem dX8_init_57 : decode cX8_init 57 = .ok (.putfield 39, 3) := by decide +kernel
theorem dX8_init_60 : decode cX8_init 60 = .ok (.aload_n 0, 1) := by decide +kernel
theorem dX8_init_61 : decode cX8_init 61 = .ok (.iconst 2, 1) := by decide +kernel
theorem dX8_init_62 : decode cX8_init 62 = .ok (.newarray .boolean, 2) := by decide +kernel
theorem dX8_init_64 : decode cX8_init 64 = .ok (.putfield 43, 3) := by decide +kernel
theorem dX8_init_67 : decode cX8_init 67 = .ok (.aload_n 0, 1) := by decide +kernel
theorem dX8_init_68 : decode cX8_init 68 = .ok (.new 47, 3) := by decide +kernel
theorem dX8_init_71 : decode cX8_init 71 = .ok (.dup, 1) := by decide +kernel
theorem dX8_init_72 : decode cX8_init 72 = .ok (.invokespecial 49, 3) := by decide +kernel
theorem dX8_init_75 : decode cX8_init 75 = .ok (.putfield 50, 3) := by decide +kernel
theorem dX8_init_78 : decode cX8_init 78 = .ok (.aload_n 0, 1) := by decide +kernel
theorem dX8_init_79 : decode cX8_init 79 = .ok (.new 54, 3) := by decide +kernel
theorem dX8_init_82 : decode cX8_init 82 = .ok (.dup, 1) := by decide +kernel
theorem dX8_init_83 : decode cX8_init 83 = .ok (.invokespecial 56, 3) := by decide +kernel
theorem dX8_init_86 : decode cX8_init 86 = .ok (.putfield 57, 3) := by decide +kernel
theorem dX8_init_89 : decode cX8_init 89 = .ok (.iconst 0, 1) := by decide +kernel
theorem dX8_init_90 : decode cX8_init 90 = .ok (.istore_n 1, 1) := by decide +kernel
theorem dX8_init_91 : decode cX8_init 91 = .ok (.iload_n 1, 1) := by decide +kernel
theorem dX8_init_92 : decode cX8_init 92 = .ok (.iconst 2, 1) := by decide +kernel
theorem dX8_init_93 : decode cX8_init 93 = .ok (.if_icmp .ge 22, 3) := by decide +kernel
theorem dX8_init_96 : decode cX8_init 96 = .ok (.aload_n 0, 1) := by decide +kernel
theorem dX8_init_97 : decode cX8_init 97 = .ok (.getfield 39, 3) := by decide +kernel
theorem dX8_init_100 : decode cX8_init 100 = .ok (.iload_n 1, 1) := by decide +kernel
theorem dX8_init_101 : decode cX8_init 101 = .ok (.new 25, 3) := by decide +kernel
theorem dX8_init_104 : decode cX8_init 104 = .ok (.dup, 1) := by decide +kernel
theorem dX8_init_105 : decode cX8_init 105 = .ok (.invokespecial 27, 3) := by decide +kernel
theorem dX8_init_108 : decode cX8_init 108 = .ok (.aastore, 1) := by decide +kernel
theorem dX8_init_109 : decode cX8_init 109 = .ok (.iinc 1 1, 3) := by decide +kernel
theorem dX8_init_112 : decode cX8_init 112 = .ok (.goto (-21), 3) := by decide +kernel
theorem dX8_init_115 : decode cX8_init 115 = .ok (.return_, 1) := by decide +kernel
set_option maxHeartbeats 4000000 in
set_option maxRecDepth 100000 in
theorem c_X8_init (l : Launch) (G : Gm) (A : Nat → Prop) (Ω : Om) (p0 : Nat) (hA0 : ∀ q, p0 ≤ q → A q) (k_0 : Ω p0 = some (.inr (8, [.null, .null, .null, .null, .null, .null, .null, .null]))) : Met l yX8_init (wz yX8_init cX8_init 2 none) ({ frames := 4, cells := 174, slots := 1682, locals := 73 } : Room) (va_Pc [.ref p0] (oP G A Ω (p0 + 1))) (va_Qv (fun Ω1 : Om => inMBO G Ω1 p0 (p0 + 132) ∧ inTxt G Ω1 (p0 + 1) (fun _ => 0) (0 : Int32) ∧ inParI G Ω1 (p0 + 3) (p0 + 1) ∧ inSit G Ω1 (p0 + 18) s0 ∧ inHis G Ω1 (p0 + 33) (fun _ => s0) (0 : Int32) (0 : Int32) ∧ inImA G Ω1 (p0 + 125) (fun i => some (p0 + 145 + 15 * i)) ∧ inImH G Ω1 (p0 + 126) (fun _ => 0) ∧ inDev G Ω1 (p0 + 127) (fun _ => 0) (fun _ => 0) (fun _ => 0) (fun _ => 0) ∧ inBlk G Ω1 (p0 + 132) (fun _ _ => 0) ∧ inSit G Ω1 (p0 + 145) s0 ∧ inSit G Ω1 (p0 + 160) s0 ∧ ∀ q : Nat, q < p0 → Ω1 q = Ω q) (oBz G A (p0 + 175)) A) 174 1682 A := by
  refine Met.ofW (cc := cX8_init) (maxL := 2) (ret := none) (by decide) rfl ?_
  intro p e s m args below meth c s₁ B hml hv
  obtain ⟨rfl, ⟨hW, hK, hN, hZ⟩, hO, hz⟩ := hv
  have hx := B.exec
  have hb := B.bytes
  have hr := B.returns
  have hin : meth.name = "<init>" := (name_of_methodNamed B.named B.method).1
  have hts : ∀ w ∈ gt, w.before _ s = true := fun w hw => atoms_spec (ws := wz yX8_init cX8_init 2 none) B.pre w (List.mem_cons_of_mem _ hw)
  have hown : s.vm.findClass RX8 = some m.cls := findClass_of_methodNamed B.named
  have hlocks := B.notSynchronized
  have hA : ∀ q, A q → A q := fun _ h => h
  have hS : va_S A s.heap s.heap [] := va_S.rf
  have hl := lv_entry ([.ref p0]) (n := 2) (Nat.le_of_ble_eq_true rfl)
  rw [lg_entry_eq]
  generalize (lg_sl ([.ref p0]) ++ List.replicate (2 - (lg_sl ([.ref p0])).length) Slot.unset).toArray = ls at hl ⊢
  have hl : lv_has ls 2 [(0, .ref p0)] := hl
  have hE : ∀ q : Nat, q < p0 → Ω q = Ω q := fun _ _ => rfl
  refine lv_aload_n hx hb dX8_init_0 rfl (lv_at hl 0 rfl) ?_
  refine o_oI hx hb hown hts mo_X8 (hl.1.trans hml.symm) dX8_init_1 (Nat.le_of_ble_eq_true rfl) (Nat.le_of_ble_eq_true rfl) ?_
  refine lv_aload_n hx hb dX8_init_4 rfl (lv_at hl 0 rfl) ?_
  refine o_new (h := (p0 + 1)) (ci := 6) (fs := [.null, .int 0]) hx hb hts ig6 tyX6 tyX6_ok hown cl_X8_7 ia_X6 ini_X6 hK hW hS (hA0 _ (by omega)) rfl (by decide) (Nat.le_of_ble_eq_true rfl) (Nat.le_of_ble_eq_true rfl) dX8_init_5 hz ?_
  clear hW hS hz
  intro Ω_1 H k_1 hF_1 hW hz hS
  replace hz : H.size = p0 + 2 := hz
  replace k_0 := (hF_1 p0 (by omega)).trans k_0
  replace hE : ∀ q : Nat, q < p0 → Ω_1 q = Ω q := fun q h => (hF_1 q (by omega)).trans (hE q h)
  clear hF_1
  refine lv_dup hx hb dX8_init_8 rfl ?_
  refine o_IN (h := p0 + 2) (rest := [.ref (p0 + 1), .ref p0]) (As := []) (n := 0) hx hb hml hown hts hK hN hZ hO hW hS hA hz (c_X6_init l G A Ω_1 (p0 + 1) (fun q h => hA0 q (by omega)) k_1) (by decide) im_X6_init ini_X6 co_X6_init rfl rfl rfl (by decide +kernel) ⟨Nat.le_of_ble_eq_true rfl, Nat.le_of_ble_eq_true rfl⟩ ⟨Nat.le_of_ble_eq_true rfl, Nat.le_of_ble_eq_true rfl⟩ hl.1 (Nat.le_of_ble_eq_true rfl) rfl rfl dX8_init_9 ?_
  clear hW hS hz
  intro Ω_2 H locs hp hW hz hS
  replace hz : H.size = p0 + 3 := hz
  obtain ⟨g_1, hF_2⟩ := hp
  clear k_1
  replace g_1 : inTxt G Ω_2 (p0 + 1) (fun _ => 0) (0 : Int32) := g_1
  replace k_0 := (hF_2 p0 (by omega)).trans k_0
  replace hE : ∀ q : Nat, q < p0 → Ω_2 q = Ω q := fun q h => (hF_2 q (by omega)).trans (hE q h)
  clear hF_2
  refine o_putF hx hb hts hown hK hW hS hA k_0 rfl ig8 tyX8 tyX8_ok nmX8 0 (by decide) fl_X8_10 rfl hin rfl (ty := .object "MirrorBytes$Text") (by decide +kernel) rfl rfl (Nat.le_of_ble_eq_true rfl) dX8_init_12 ?_
  clear hW hS
  intro Ω_3 H locs k_0 hF_3 hW hz1 hS
  replace hz := hz1.trans hz
  clear hz1
  replace k_0 : Ω_3 p0 = some (.inr (8, [.ref (p0 + 1), .null, .null, .null, .null, .null, .null, .null])) := k_0
  replace g_1 := g_1.keep (fun q h1 h2 => hF_3 q (by omega))
  replace hE : ∀ q : Nat, q < p0 → Ω_3 q = Ω q := fun q h => (hF_3 q (by omega)).trans (hE q h)
  clear hF_3
  refine lv_aload_n hx hb dX8_init_15 rfl (lv_at hl 0 rfl) ?_
  refine o_new (h := (p0 + 3)) (ci := 4) (fs := [.null, .null]) hx hb hts ig4 tyX4 tyX4_ok hown cl_X8_16 ia_X4 ini_X4 hK hW hS (hA0 _ (by omega)) rfl (by decide) (Nat.le_of_ble_eq_true rfl) (Nat.le_of_ble_eq_true rfl) dX8_init_16 hz ?_
  clear hW hS hz
  intro Ω_4 H k_3 hF_4 hW hz hS
  replace hz : H.size = p0 + 4 := hz
  replace k_0 := (hF_4 p0 (by omega)).trans k_0
  replace g_1 := g_1.keep (fun q h1 h2 => hF_4 q (by omega))
  replace hE : ∀ q : Nat, q < p0 → Ω_4 q = Ω q := fun q h => (hF_4 q (by omega)).trans (hE q h)
  clear hF_4
  refine lv_dup hx hb dX8_init_19 rfl ?_
  refine lv_aload_n hx hb dX8_init_20 rfl (lv_at hl 0 rfl) ?_
  refine o_get hx hb hts hown hK hW k_0 rfl ig8 0 (by decide) fl_X8_10 rfl dX8_init_21 ?_
  refine o_I (h := p0 + 4) (rest := [.ref (p0 + 3), .ref p0]) (As := [.ref (p0 + 1)]) (n := 1) hx hb hml hown hts hK hN hZ hO hW hS hA hz (c_X4_init l G A Ω_4 (p0 + 3) (p0 + 1) (fun q h => hA0 q (by omega)) k_3) ml_X8_18 im_X4_init ini_X4 co_X4_init rfl rfl rfl (by decide +kernel) ⟨Nat.le_of_ble_eq_true rfl, Nat.le_of_ble_eq_true rfl⟩ ⟨Nat.le_of_ble_eq_true rfl, Nat.le_of_ble_eq_true rfl⟩ hl.1 (Nat.le_of_ble_eq_true rfl) rfl rfl dX8_init_24 ?_
  clear hW hS hz
  intro Ω_5 H locs hp hW hz hS
  replace hz : H.size = p0 + 18 := hz
  obtain ⟨g_3, hF_5⟩ := hp
  clear k_3
  replace g_3 : inParI G Ω_5 (p0 + 3) (p0 + 1) := g_3
  replace k_0 := (hF_5 p0 (by omega)).trans k_0
  replace g_1 := g_1.keep (fun q h1 h2 => hF_5 q (by omega))
  replace hE : ∀ q : Nat, q < p0 → Ω_5 q = Ω q := fun q h => (hF_5 q (by omega)).trans (hE q h)
  clear hF_5
  refine o_putF hx hb hts hown hK hW hS hA k_0 rfl ig8 tyX8 tyX8_ok nmX8 1 (by decide) fl_X8_21 rfl hin rfl (ty := .object "MirrorBytes$Parser") (by decide +kernel) rfl rfl (Nat.le_of_ble_eq_true rfl) dX8_init_27 ?_
  clear hW hS
  intro Ω_6 H locs k_0 hF_6 hW hz1 hS
  replace hz := hz1.trans hz
  clear hz1
  replace k_0 : Ω_6 p0 = some (.inr (8, [.ref (p0 + 1), .ref (p0 + 3), .null, .null, .null, .null, .null, .null])) := k_0
  replace g_1 := g_1.keep (fun q h1 h2 => hF_6 q (by omega))
  replace g_3 := g_3.keep (fun q h1 h2 => hF_6 q (by omega))
  replace hE : ∀ q : Nat, q < p0 → Ω_6 q = Ω q := fun q h => (hF_6 q (by omega)).trans (hE q h)
  clear hF_6
  refine lv_aload_n hx hb dX8_init_30 rfl (lv_at hl 0 rfl) ?_
  refine o_new (h := (p0 + 18)) (ci := 5) (fs := [.null, .null, .null, .int 0, .int 0]) hx hb hts ig5 tyX5 tyX5_ok hown cl_X8_25 ia_X5 ini_X5 hK hW hS (hA0 _ (by omega)) rfl (by decide) (Nat.le_of_ble_eq_true rfl) (Nat.le_of_ble_eq_true rfl) dX8_init_31 hz ?_
  clear hW hS hz
  intro Ω_7 H k_18 hF_7 hW hz hS
  replace hz : H.size = p0 + 19 := hz
  replace k_0 := (hF_7 p0 (by omega)).trans k_0
  replace g_1 := g_1.keep (fun q h1 h2 => hF_7 q (by omega))
  replace g_3 := g_3.keep (fun q h1 h2 => hF_7 q (by omega))
  replace hE : ∀ q : Nat, q < p0 → Ω_7 q = Ω q := fun q h => (hF_7 q (by omega)).trans (hE q h)
  clear hF_7
  refine lv_dup hx hb dX8_init_34 rfl ?_
  refine o_IN (h := p0 + 19) (rest := [.ref (p0 + 18), .ref p0]) (As := []) (n := 0) hx hb hml hown hts hK hN hZ hO hW hS hA hz (c_X5_init l G A Ω_7 (p0 + 18) (fun q h => hA0 q (by omega)) k_18) (by decide) im_X5_init ini_X5 co_X5_init rfl rfl rfl (by decide +kernel) ⟨Nat.le_of_ble_eq_true rfl, Nat.le_of_ble_eq_true rfl⟩ ⟨Nat.le_of_ble_eq_true rfl, Nat.le_of_ble_eq_true rfl⟩ hl.1 (Nat.le_of_ble_eq_true rfl) rfl rfl dX8_init_35 ?_
  clear hW hS hz
  intro Ω_8 H locs hp hW hz hS
  replace hz : H.size = p0 + 33 := hz
  obtain ⟨g_18, hF_8⟩ := hp
  clear k_18
  replace g_18 : inSit G Ω_8 (p0 + 18) s0 := g_18
  replace k_0 := (hF_8 p0 (by omega)).trans k_0
  replace g_1 := g_1.keep (fun q h1 h2 => hF_8 q (by omega))
  replace g_3 := g_3.keep (fun q h1 h2 => hF_8 q (by omega))
  replace hE : ∀ q : Nat, q < p0 → Ω_8 q = Ω q := fun q h => (hF_8 q (by omega)).trans (hE q h)
  clear hF_8
  refine o_putF hx hb hts hown hK hW hS hA k_0 rfl ig8 tyX8 tyX8_ok nmX8 2 (by decide) fl_X8_28 rfl hin rfl (ty := .object "MirrorBytes$Situation") (by decide +kernel) rfl rfl (Nat.le_of_ble_eq_true rfl) dX8_init_38 ?_
  clear hW hS
  intro Ω_9 H locs k_0 hF_9 hW hz1 hS
  replace hz := hz1.trans hz
  clear hz1
  replace k_0 : Ω_9 p0 = some (.inr (8, [.ref (p0 + 1), .ref (p0 + 3), .ref (p0 + 18), .null, .null, .null, .null, .null])) := k_0
  replace g_1 := g_1.keep (fun q h1 h2 => hF_9 q (by omega))
  replace g_3 := g_3.keep (fun q h1 h2 => hF_9 q (by omega))
  replace g_18 := g_18.keep (fun q h1 h2 => hF_9 q (by omega))
  replace hE : ∀ q : Nat, q < p0 → Ω_9 q = Ω q := fun q h => (hF_9 q (by omega)).trans (hE q h)
  clear hF_9
  refine lv_aload_n hx hb dX8_init_41 rfl (lv_at hl 0 rfl) ?_
  refine o_new (h := (p0 + 33)) (ci := 2) (fs := [.null, .int 0, .int 0]) hx hb hts ig2 tyX2 tyX2_ok hown cl_X8_32 ia_X2 ini_X2 hK hW hS (hA0 _ (by omega)) rfl (by decide) (Nat.le_of_ble_eq_true rfl) (Nat.le_of_ble_eq_true rfl) dX8_init_42 hz ?_
  clear hW hS hz
  intro Ω_10 H k_33 hF_10 hW hz hS
  replace hz : H.size = p0 + 34 := hz
  replace k_0 := (hF_10 p0 (by omega)).trans k_0
  replace g_1 := g_1.keep (fun q h1 h2 => hF_10 q (by omega))
  replace g_3 := g_3.keep (fun q h1 h2 => hF_10 q (by omega))
  replace g_18 := g_18.keep (fun q h1 h2 => hF_10 q (by omega))
  replace hE : ∀ q : Nat, q < p0 → Ω_10 q = Ω q := fun q h => (hF_10 q (by omega)).trans (hE q h)
  clear hF_10
  refine lv_dup hx hb dX8_init_45 rfl ?_
  refine o_I (h := p0 + 34) (rest := [.ref (p0 + 33), .ref p0]) (As := []) (n := 0) hx hb hml hown hts hK hN hZ hO hW hS hA hz (c_X2_init l G A Ω_10 (p0 + 33) (fun q h => hA0 q (by omega)) k_33) ml_X8_34 im_X2_init ini_X2 co_X2_init rfl rfl rfl (by decide +kernel) ⟨Nat.le_of_ble_eq_true rfl, Nat.le_of_ble_eq_true rfl⟩ ⟨Nat.le_of_ble_eq_true rfl, Nat.le_of_ble_eq_true rfl⟩ hl.1 (Nat.le_of_ble_eq_true rfl) rfl rfl dX8_init_46 ?_
  clear hW hS hz
  intro Ω_11 H locs hp hW hz hS
  replace hz : H.size = p0 + 125 := hz
  obtain ⟨g_33, hF_11⟩ := hp
  clear k_33
  replace g_33 : inHis G Ω_11 (p0 + 33) (fun _ => s0) (0 : Int32) (0 : Int32) := g_33
  replace k_0 := (hF_11 p0 (by omega)).trans k_0
  replace g_1 := g_1.keep (fun q h1 h2 => hF_11 q (by omega))
  replace g_3 := g_3.keep (fun q h1 h2 => hF_11 q (by omega))
  replace g_18 := g_18.keep (fun q h1 h2 => hF_11 q (by omega))
  replace hE : ∀ q : Nat, q < p0 → Ω_11 q = Ω q := fun q h => (hF_11 q (by omega)).trans (hE q h)
  clear hF_11
  refine o_putF hx hb hts hown hK hW hS hA k_0 rfl ig8 tyX8 tyX8_ok nmX8 3 (by decide) fl_X8_35 rfl hin rfl (ty := .object "MirrorBytes$History") (by decide +kernel) rfl rfl (Nat.le_of_ble_eq_true rfl) dX8_init_49 ?_
  clear hW hS
  intro Ω_12 H locs k_0 hF_12 hW hz1 hS
  replace hz := hz1.trans hz
  clear hz1
  replace k_0 : Ω_12 p0 = some (.inr (8, [.ref (p0 + 1), .ref (p0 + 3), .ref (p0 + 18), .ref (p0 + 33), .null, .null, .null, .null])) := k_0
  replace g_1 := g_1.keep (fun q h1 h2 => hF_12 q (by omega))
  replace g_3 := g_3.keep (fun q h1 h2 => hF_12 q (by omega))
  replace g_18 := g_18.keep (fun q h1 h2 => hF_12 q (by omega))
  replace g_33 := g_33.keep (fun q h1 h2 => hF_12 q (by omega))
  replace hE : ∀ q : Nat, q < p0 → Ω_12 q = Ω q := fun q h => (hF_12 q (by omega)).trans (hE q h)
  clear hF_12
  refine lv_aload_n hx hb dX8_init_52 rfl (lv_at hl 0 rfl) ?_
  refine lv_iconst (v := (2 : Int32)) hx hb dX8_init_53 (by decide) ?_
  refine o_newS (N := 2) (h := (p0 + 125)) hx hb hts hown cl_X8_25 hO hK hW hS (hA0 _ (by omega)) (by decide) (by decide) (by decide) (Nat.le_of_ble_eq_true rfl) (Nat.le_of_ble_eq_true rfl) dX8_init_54 hz ?_
  clear hW hS hz
  intro Ω_13 H k_125 hF_13 hW hz hS
  replace hz : H.size = p0 + 126 := hz
  replace k_0 := (hF_13 p0 (by omega)).trans k_0
  replace g_1 := g_1.keep (fun q h1 h2 => hF_13 q (by omega))
  replace g_3 := g_3.keep (fun q h1 h2 => hF_13 q (by omega))
  replace g_18 := g_18.keep (fun q h1 h2 => hF_13 q (by omega))
  replace g_33 := g_33.keep (fun q h1 h2 => hF_13 q (by omega))
  replace hE : ∀ q : Nat, q < p0 → Ω_13 q = Ω q := fun q h => (hF_13 q (by omega)).trans (hE q h)
  clear hF_13
  refine o_putF hx hb hts hown hK hW hS hA k_0 rfl ig8 tyX8 tyX8_ok nmX8 4 (by decide) fl_X8_39 rfl hin rfl (ty := .array (.object "MirrorBytes$Situation")) (by decide +kernel) rfl rfl (Nat.le_of_ble_eq_true rfl) dX8_init_57 ?_
  clear hW hS
  intro Ω_14 H locs k_0 hF_14 hW hz1 hS
  replace hz := hz1.trans hz
  clear hz1
  replace k_0 : Ω_14 p0 = some (.inr (8, [.ref (p0 + 1), .ref (p0 + 3), .ref (p0 + 18), .ref (p0 + 33), .ref (p0 + 125), .null, .null, .null])) := k_0
  replace g_1 := g_1.keep (fun q h1 h2 => hF_14 q (by omega))
  replace g_3 := g_3.keep (fun q h1 h2 => hF_14 q (by omega))
  replace g_18 := g_18.keep (fun q h1 h2 => hF_14 q (by omega))
  replace g_33 := g_33.keep (fun q h1 h2 => hF_14 q (by omega))
  replace k_125 := (hF_14 (p0 + 125) (by omega)).trans k_125
  replace hE : ∀ q : Nat, q < p0 → Ω_14 q = Ω q := fun q h => (hF_14 q (by omega)).trans (hE q h)
  clear hF_14
  refine lv_aload_n hx hb dX8_init_60 rfl (lv_at hl 0 rfl) ?_
  refine lv_iconst (v := (2 : Int32)) hx hb dX8_init_61 (by decide) ?_
  refine o_newZ (N := 2) (h := (p0 + 126)) hx hb hts hK hW hS (hA0 _ (by omega)) (by decide) (by decide) (by decide) (Nat.le_of_ble_eq_true rfl) (Nat.le_of_ble_eq_true rfl) dX8_init_62 hz ?_
  clear hW hS hz
  intro Ω_15 H k_126 hF_15 hW hz hS
  replace hz : H.size = p0 + 127 := hz
  replace k_0 := (hF_15 p0 (by omega)).trans k_0
  replace g_1 := g_1.keep (fun q h1 h2 => hF_15 q (by omega))
  replace g_3 := g_3.keep (fun q h1 h2 => hF_15 q (by omega))
  replace g_18 := g_18.keep (fun q h1 h2 => hF_15 q (by omega))
  replace g_33 := g_33.keep (fun q h1 h2 => hF_15 q (by omega))
  replace k_125 := (hF_15 (p0 + 125) (by omega)).trans k_125
  replace hE : ∀ q : Nat, q < p0 → Ω_15 q = Ω q := fun q h => (hF_15 q (by omega)).trans (hE q h)
  clear hF_15
  refine o_putF hx hb hts hown hK hW hS hA k_0 rfl ig8 tyX8 tyX8_ok nmX8 5 (by decide) fl_X8_43 rfl hin rfl (ty := .array .boolean) (by decide +kernel) rfl rfl (Nat.le_of_ble_eq_true rfl) dX8_init_64 ?_
  clear hW hS
  intro Ω_16 H locs k_0 hF_16 hW hz1 hS
  replace hz := hz1.trans hz
  clear hz1
  replace k_0 : Ω_16 p0 = some (.inr (8, [.ref (p0 + 1), .ref (p0 + 3), .ref (p0 + 18), .ref (p0 + 33), .ref (p0 + 125), .ref (p0 + 126), .null, .null])) := k_0
  replace g_1 := g_1.keep (fun q h1 h2 => hF_16 q (by omega))
  replace g_3 := g_3.keep (fun q h1 h2 => hF_16 q (by omega))
  replace g_18 := g_18.keep (fun q h1 h2 => hF_16 q (by omega))
  replace g_33 := g_33.keep (fun q h1 h2 => hF_16 q (by omega))
  replace k_125 := (hF_16 (p0 + 125) (by omega)).trans k_125
  replace k_126 := (hF_16 (p0 + 126) (by omega)).trans k_126
  replace hE : ∀ q : Nat, q < p0 → Ω_16 q = Ω q := fun q h => (hF_16 q (by omega)).trans (hE q h)
  clear hF_16
  refine lv_aload_n hx hb dX8_init_67 rfl (lv_at hl 0 rfl) ?_
  refine o_new (h := (p0 + 127)) (ci := 1) (fs := [.null, .null, .null, .null]) hx hb hts ig1 tyX1 tyX1_ok hown cl_X8_47 ia_X1 ini_X1 hK hW hS (hA0 _ (by omega)) rfl (by decide) (Nat.le_of_ble_eq_true rfl) (Nat.le_of_ble_eq_true rfl) dX8_init_68 hz ?_
  clear hW hS hz
  intro Ω_17 H k_127 hF_17 hW hz hS
  replace hz : H.size = p0 + 128 := hz
  replace k_0 := (hF_17 p0 (by omega)).trans k_0
  replace g_1 := g_1.keep (fun q h1 h2 => hF_17 q (by omega))
  replace g_3 := g_3.keep (fun q h1 h2 => hF_17 q (by omega))
  replace g_18 := g_18.keep (fun q h1 h2 => hF_17 q (by omega))
  replace g_33 := g_33.keep (fun q h1 h2 => hF_17 q (by omega))
  replace k_125 := (hF_17 (p0 + 125) (by omega)).trans k_125
  replace k_126 := (hF_17 (p0 + 126) (by omega)).trans k_126
  replace hE : ∀ q : Nat, q < p0 → Ω_17 q = Ω q := fun q h => (hF_17 q (by omega)).trans (hE q h)
  clear hF_17
  refine lv_dup hx hb dX8_init_71 rfl ?_
  refine o_IN (h := p0 + 128) (rest := [.ref (p0 + 127), .ref p0]) (As := []) (n := 0) hx hb hml hown hts hK hN hZ hO hW hS hA hz (c_X1_init l G A Ω_17 (p0 + 127) (fun q h => hA0 q (by omega)) k_127) (by decide) im_X1_init ini_X1 co_X1_init rfl rfl rfl (by decide +kernel) ⟨Nat.le_of_ble_eq_true rfl, Nat.le_of_ble_eq_true rfl⟩ ⟨Nat.le_of_ble_eq_true rfl, Nat.le_of_ble_eq_true rfl⟩ hl.1 (Nat.le_of_ble_eq_true rfl) rfl rfl dX8_init_72 ?_
  clear hW hS hz
  intro Ω_18 H locs hp hW hz hS
  replace hz : H.size = p0 + 132 := hz
  obtain ⟨g_127, hF_18⟩ := hp
  clear k_127
  replace g_127 : inDev G Ω_18 (p0 + 127) (fun _ => 0) (fun _ => 0) (fun _ => 0) (fun _ => 0) := g_127
  replace k_0 := (hF_18 p0 (by omega)).trans k_0
  replace g_1 := g_1.keep (fun q h1 h2 => hF_18 q (by omega))
  replace g_3 := g_3.keep (fun q h1 h2 => hF_18 q (by omega))
  replace g_18 := g_18.keep (fun q h1 h2 => hF_18 q (by omega))
  replace g_33 := g_33.keep (fun q h1 h2 => hF_18 q (by omega))
  replace k_125 := (hF_18 (p0 + 125) (by omega)).trans k_125
  replace k_126 := (hF_18 (p0 + 126) (by omega)).trans k_126
  replace hE : ∀ q : Nat, q < p0 → Ω_18 q = Ω q := fun q h => (hF_18 q (by omega)).trans (hE q h)
  clear hF_18
  refine o_putF hx hb hts hown hK hW hS hA k_0 rfl ig8 tyX8 tyX8_ok nmX8 6 (by decide) fl_X8_50 rfl hin rfl (ty := .object "MirrorBytes$Device") (by decide +kernel) rfl rfl (Nat.le_of_ble_eq_true rfl) dX8_init_75 ?_
  clear hW hS
  intro Ω_19 H locs k_0 hF_19 hW hz1 hS
  replace hz := hz1.trans hz
  clear hz1
  replace k_0 : Ω_19 p0 = some (.inr (8, [.ref (p0 + 1), .ref (p0 + 3), .ref (p0 + 18), .ref (p0 + 33), .ref (p0 + 125), .ref (p0 + 126), .ref (p0 + 127), .null])) := k_0
  replace g_1 := g_1.keep (fun q h1 h2 => hF_19 q (by omega))
  replace g_3 := g_3.keep (fun q h1 h2 => hF_19 q (by omega))
  replace g_18 := g_18.keep (fun q h1 h2 => hF_19 q (by omega))
  replace g_33 := g_33.keep (fun q h1 h2 => hF_19 q (by omega))
  replace k_125 := (hF_19 (p0 + 125) (by omega)).trans k_125
  replace k_126 := (hF_19 (p0 + 126) (by omega)).trans k_126
  replace g_127 := g_127.keep (fun q h1 h2 => hF_19 q (by omega))
  replace hE : ∀ q : Nat, q < p0 → Ω_19 q = Ω q := fun q h => (hF_19 q (by omega)).trans (hE q h)
  clear hF_19
  refine lv_aload_n hx hb dX8_init_78 rfl (lv_at hl 0 rfl) ?_
  refine o_new (h := (p0 + 132)) (ci := 0) (fs := [.int 0, .int 0, .int 0, .null, .null, .null, .null, .null, .null, .null, .null, .null, .null, .null, .null]) hx hb hts ig0 tyX0 tyX0_ok hown cl_X8_54 ia_X0 ini_X0 hK hW hS (hA0 _ (by omega)) rfl (by decide) (Nat.le_of_ble_eq_true rfl) (Nat.le_of_ble_eq_true rfl) dX8_init_79 hz ?_
  clear hW hS hz
  intro Ω_20 H k_132 hF_20 hW hz hS
  replace hz : H.size = p0 + 133 := hz
  replace k_0 := (hF_20 p0 (by omega)).trans k_0
  replace g_1 := g_1.keep (fun q h1 h2 => hF_20 q (by omega))
  replace g_3 := g_3.keep (fun q h1 h2 => hF_20 q (by omega))
  replace g_18 := g_18.keep (fun q h1 h2 => hF_20 q (by omega))
  replace g_33 := g_33.keep (fun q h1 h2 => hF_20 q (by omega))
  replace k_125 := (hF_20 (p0 + 125) (by omega)).trans k_125
  replace k_126 := (hF_20 (p0 + 126) (by omega)).trans k_126
  replace g_127 := g_127.keep (fun q h1 h2 => hF_20 q (by omega))
  replace hE : ∀ q : Nat, q < p0 → Ω_20 q = Ω q := fun q h => (hF_20 q (by omega)).trans (hE q h)
  clear hF_20
  refine lv_dup hx hb dX8_init_82 rfl ?_
  refine o_IN (h := p0 + 133) (rest := [.ref (p0 + 132), .ref p0]) (As := []) (n := 0) hx hb hml hown hts hK hN hZ hO hW hS hA hz (c_X0_init l G A Ω_20 (p0 + 132) (fun q h => hA0 q (by omega)) k_132) (by decide) im_X0_init ini_X0 co_X0_init rfl rfl rfl (by decide +kernel) ⟨Nat.le_of_ble_eq_true rfl, Nat.le_of_ble_eq_true rfl⟩ ⟨Nat.le_of_ble_eq_true rfl, Nat.le_of_ble_eq_true rfl⟩ hl.1 (Nat.le_of_ble_eq_true rfl) rfl rfl dX8_init_83 ?_
  clear hW hS hz
  intro Ω_21 H locs hp hW hz hS
  replace hz : H.size = p0 + 145 := hz
  obtain ⟨g_132, hF_21⟩ := hp
  clear k_132
  replace g_132 : inBlk G Ω_21 (p0 + 132) (fun _ _ => 0) := g_132
  replace k_0 := (hF_21 p0 (by omega)).trans k_0
  replace g_1 := g_1.keep (fun q h1 h2 => hF_21 q (by omega))
  replace g_3 := g_3.keep (fun q h1 h2 => hF_21 q (by omega))
  replace g_18 := g_18.keep (fun q h1 h2 => hF_21 q (by omega))
  replace g_33 := g_33.keep (fun q h1 h2 => hF_21 q (by omega))
  replace k_125 := (hF_21 (p0 + 125) (by omega)).trans k_125
  replace k_126 := (hF_21 (p0 + 126) (by omega)).trans k_126
  replace g_127 := g_127.keep (fun q h1 h2 => hF_21 q (by omega))
  replace hE : ∀ q : Nat, q < p0 → Ω_21 q = Ω q := fun q h => (hF_21 q (by omega)).trans (hE q h)
  clear hF_21
  refine o_putZ hx hb hts hown hK hW hS hA k_0 rfl ig8 tyX8 tyX8_ok nmX8 7 (by decide) fl_X8_57 rfl (ty := .object "MirrorBytes$Block") (by decide +kernel) rfl rfl (Nat.le_of_ble_eq_true rfl) dX8_init_86 ?_
  clear hW hS
  intro Ω_22 H locs k_0 hF_22 hW hz1 hS
  replace hz := hz1.trans hz
  clear hz1
  replace k_0 : Ω_22 p0 = some (.inr (8, [.ref (p0 + 1), .ref (p0 + 3), .ref (p0 + 18), .ref (p0 + 33), .ref (p0 + 125), .ref (p0 + 126), .ref (p0 + 127), .ref (p0 + 132)])) := k_0
  replace g_1 := g_1.keep (fun q h1 h2 => hF_22 q (by omega))
  replace g_3 := g_3.keep (fun q h1 h2 => hF_22 q (by omega))
  replace g_18 := g_18.keep (fun q h1 h2 => hF_22 q (by omega))
  replace g_33 := g_33.keep (fun q h1 h2 => hF_22 q (by omega))
  replace k_125 := (hF_22 (p0 + 125) (by omega)).trans k_125
  replace k_126 := (hF_22 (p0 + 126) (by omega)).trans k_126
  replace g_127 := g_127.keep (fun q h1 h2 => hF_22 q (by omega))
  replace g_132 := g_132.keep (fun q h1 h2 => hF_22 q (by omega))
  replace hE : ∀ q : Nat, q < p0 → Ω_22 q = Ω q := fun q h => (hF_22 q (by omega)).trans (hE q h)
  clear hF_22
  refine lv_iconst (v := (0 : Int32)) hx hb dX8_init_89 (by decide) ?_
  refine lv_istore_n (lv' := [(1, .int (0 : Int32)), (0, .ref p0)]) hx hb dX8_init_90 rfl hl (by decide) rfl (fun ls hl => ?_)
  refine lv_iload_n hx hb dX8_init_91 rfl (lv_at hl 0 rfl) ?_
  refine lv_iconst (v := (2 : Int32)) hx hb dX8_init_92 (by decide) ?_
  refine lv_icmp_ge (tgt := 115) hx hb dX8_init_93 (by decide) (fun c_ => absurd c_ (by decide)) (fun _ => ?_)
  refine lv_aload_n hx hb dX8_init_96 rfl (lv_at hl 1 rfl) ?_
  refine o_get hx hb hts hown hK hW k_0 rfl ig8 4 (by decide) fl_X8_39 rfl dX8_init_97 ?_
  refine lv_iload_n hx hb dX8_init_100 rfl (lv_at hl 0 rfl) ?_
  refine o_new (h := (p0 + 145)) (ci := 5) (fs := [.null, .null, .null, .int 0, .int 0]) hx hb hts ig5 tyX5 tyX5_ok hown cl_X8_25 ia_X5 ini_X5 hK hW hS (hA0 _ (by omega)) rfl (by decide) (Nat.le_of_ble_eq_true rfl) (Nat.le_of_ble_eq_true rfl) dX8_init_101 hz ?_
  clear hW hS hz
  intro Ω_23 H k_145 hF_23 hW hz hS
  replace hz : H.size = p0 + 146 := hz
  replace k_0 := (hF_23 p0 (by omega)).trans k_0
  replace g_1 := g_1.keep (fun q h1 h2 => hF_23 q (by omega))
  replace g_3 := g_3.keep (fun q h1 h2 => hF_23 q (by omega))
  replace g_18 := g_18.keep (fun q h1 h2 => hF_23 q (by omega))
  replace g_33 := g_33.keep (fun q h1 h2 => hF_23 q (by omega))
  replace k_125 := (hF_23 (p0 + 125) (by omega)).trans k_125
  replace k_126 := (hF_23 (p0 + 126) (by omega)).trans k_126
  replace g_127 := g_127.keep (fun q h1 h2 => hF_23 q (by omega))
  replace g_132 := g_132.keep (fun q h1 h2 => hF_23 q (by omega))
  replace hE : ∀ q : Nat, q < p0 → Ω_23 q = Ω q := fun q h => (hF_23 q (by omega)).trans (hE q h)
  clear hF_23
  refine lv_dup hx hb dX8_init_104 rfl ?_
  refine o_IN (h := p0 + 146) (rest := [.ref (p0 + 145), .int (0 : Int32), .ref (p0 + 125)]) (As := []) (n := 0) hx hb hml hown hts hK hN hZ hO hW hS hA hz (c_X5_init l G A Ω_23 (p0 + 145) (fun q h => hA0 q (by omega)) k_145) (by decide) im_X5_init ini_X5 co_X5_init rfl rfl rfl (by decide +kernel) ⟨Nat.le_of_ble_eq_true rfl, Nat.le_of_ble_eq_true rfl⟩ ⟨Nat.le_of_ble_eq_true rfl, Nat.le_of_ble_eq_true rfl⟩ hl.1 (Nat.le_of_ble_eq_true rfl) rfl rfl dX8_init_105 ?_
  clear hW hS hz
  intro Ω_24 H locs hp hW hz hS
  replace hz : H.size = p0 + 160 := hz
  obtain ⟨g_145, hF_24⟩ := hp
  clear k_145
  replace g_145 : inSit G Ω_24 (p0 + 145) s0 := g_145
  replace k_0 := (hF_24 p0 (by omega)).trans k_0
  replace g_1 := g_1.keep (fun q h1 h2 => hF_24 q (by omega))
  replace g_3 := g_3.keep (fun q h1 h2 => hF_24 q (by omega))
  replace g_18 := g_18.keep (fun q h1 h2 => hF_24 q (by omega))
  replace g_33 := g_33.keep (fun q h1 h2 => hF_24 q (by omega))
  replace k_125 := (hF_24 (p0 + 125) (by omega)).trans k_125
  replace k_126 := (hF_24 (p0 + 126) (by omega)).trans k_126
  replace g_127 := g_127.keep (fun q h1 h2 => hF_24 q (by omega))
  replace g_132 := g_132.keep (fun q h1 h2 => hF_24 q (by omega))
  replace hE : ∀ q : Nat, q < p0 → Ω_24 q = Ω q := fun q h => (hF_24 q (by omega)).trans (hE q h)
  clear hF_24
  refine o_qast (n := 2) hx hb hK hW hS hA k_125 (inSitO_o g_145.1) (vp_in_iff.mpr ⟨by decide, by decide⟩) dX8_init_108 ?_
  clear hW hS
  intro Ω_25 H locs k_125 hF_25 hW hz1 hS
  replace hz := hz1.trans hz
  clear hz1
  replace k_0 := (hF_25 p0 (by omega)).trans k_0
  replace g_1 := g_1.keep (fun q h1 h2 => hF_25 q (by omega))
  replace g_3 := g_3.keep (fun q h1 h2 => hF_25 q (by omega))
  replace g_18 := g_18.keep (fun q h1 h2 => hF_25 q (by omega))
  replace g_33 := g_33.keep (fun q h1 h2 => hF_25 q (by omega))
  replace k_126 := (hF_25 (p0 + 126) (by omega)).trans k_126
  replace g_127 := g_127.keep (fun q h1 h2 => hF_25 q (by omega))
  replace g_132 := g_132.keep (fun q h1 h2 => hF_25 q (by omega))
  replace g_145 := g_145.keep (fun q h1 h2 => hF_25 q (by omega))
  replace hE : ∀ q : Nat, q < p0 → Ω_25 q = Ω q := fun q h => (hF_25 q (by omega)).trans (hE q h)
  clear hF_25
  refine lv_iinc (v := (1 : Int32)) (lv' := [(1, .int (1 : Int32)), (0, .ref p0)]) hx hb dX8_init_109 hl (k := 0) rfl (by decide) (by decide) rfl (fun ls hl => ?_)
  refine lv_goto (tgt := 91) hx hb dX8_init_112 (by decide) ?_
  refine lv_iload_n hx hb dX8_init_91 rfl (lv_at hl 0 rfl) ?_
  refine lv_iconst (v := (2 : Int32)) hx hb dX8_init_92 (by decide) ?_
  refine lv_icmp_ge (tgt := 115) hx hb dX8_init_93 (by decide) (fun c_ => absurd c_ (by decide)) (fun _ => ?_)
  refine lv_aload_n hx hb dX8_init_96 rfl (lv_at hl 1 rfl) ?_
  refine o_get hx hb hts hown hK hW k_0 rfl ig8 4 (by decide) fl_X8_39 rfl dX8_init_97 ?_
  refine lv_iload_n hx hb dX8_init_100 rfl (lv_at hl 0 rfl) ?_
  refine o_new (h := (p0 + 160)) (ci := 5) (fs := [.null, .null, .null, .int 0, .int 0]) hx hb hts ig5 tyX5 tyX5_ok hown cl_X8_25 ia_X5 ini_X5 hK hW hS (hA0 _ (by omega)) rfl (by decide) (Nat.le_of_ble_eq_true rfl) (Nat.le_of_ble_eq_true rfl) dX8_init_101 hz ?_
  clear hW hS hz
  intro Ω_26 H k_160 hF_26 hW hz hS
  replace hz : H.size = p0 + 161 := hz
  replace k_0 := (hF_26 p0 (by omega)).trans k_0
  replace g_1 := g_1.keep (fun q h1 h2 => hF_26 q (by omega))
  replace g_3 := g_3.keep (fun q h1 h2 => hF_26 q (by omega))
  replace g_18 := g_18.keep (fun q h1 h2 => hF_26 q (by omega))
  replace g_33 := g_33.keep (fun q h1 h2 => hF_26 q (by omega))
  replace k_125 := (hF_26 (p0 + 125) (by omega)).trans k_125
  replace k_126 := (hF_26 (p0 + 126) (by omega)).trans k_126
  replace g_127 := g_127.keep (fun q h1 h2 => hF_26 q (by omega))
  replace g_132 := g_132.keep (fun q h1 h2 => hF_26 q (by omega))
  replace g_145 := g_145.keep (fun q h1 h2 => hF_26 q (by omega))
  replace hE : ∀ q : Nat, q < p0 → Ω_26 q = Ω q := fun q h => (hF_26 q (by omega)).trans (hE q h)
  clear hF_26
  refine lv_dup hx hb dX8_init_104 rfl ?_
  refine o_IN (h := p0 + 161) (rest := [.ref (p0 + 160), .int (1 : Int32), .ref (p0 + 125)]) (As := []) (n := 0) hx hb hml hown hts hK hN hZ hO hW hS hA hz (c_X5_init l G A Ω_26 (p0 + 160) (fun q h => hA0 q (by omega)) k_160) (by decide) im_X5_init ini_X5 co_X5_init rfl rfl rfl (by decide +kernel) ⟨Nat.le_of_ble_eq_true rfl, Nat.le_of_ble_eq_true rfl⟩ ⟨Nat.le_of_ble_eq_true rfl, Nat.le_of_ble_eq_true rfl⟩ hl.1 (Nat.le_of_ble_eq_true rfl) rfl rfl dX8_init_105 ?_
  clear hW hS hz
  intro Ω_27 H locs hp hW hz hS
  replace hz : H.size = p0 + 175 := hz
  obtain ⟨g_160, hF_27⟩ := hp
  clear k_160
  replace g_160 : inSit G Ω_27 (p0 + 160) s0 := g_160
  replace k_0 := (hF_27 p0 (by omega)).trans k_0
  replace g_1 := g_1.keep (fun q h1 h2 => hF_27 q (by omega))
  replace g_3 := g_3.keep (fun q h1 h2 => hF_27 q (by omega))
  replace g_18 := g_18.keep (fun q h1 h2 => hF_27 q (by omega))
  replace g_33 := g_33.keep (fun q h1 h2 => hF_27 q (by omega))
  replace k_125 := (hF_27 (p0 + 125) (by omega)).trans k_125
  replace k_126 := (hF_27 (p0 + 126) (by omega)).trans k_126
  replace g_127 := g_127.keep (fun q h1 h2 => hF_27 q (by omega))
  replace g_132 := g_132.keep (fun q h1 h2 => hF_27 q (by omega))
  replace g_145 := g_145.keep (fun q h1 h2 => hF_27 q (by omega))
  replace hE : ∀ q : Nat, q < p0 → Ω_27 q = Ω q := fun q h => (hF_27 q (by omega)).trans (hE q h)
  clear hF_27
  refine o_qast (n := 2) hx hb hK hW hS hA k_125 (inSitO_o g_160.1) (vp_in_iff.mpr ⟨by decide, by decide⟩) dX8_init_108 ?_
  clear hW hS
  intro Ω_28 H locs k_125 hF_28 hW hz1 hS
  replace hz := hz1.trans hz
  clear hz1
  replace k_0 := (hF_28 p0 (by omega)).trans k_0
  replace g_1 := g_1.keep (fun q h1 h2 => hF_28 q (by omega))
  replace g_3 := g_3.keep (fun q h1 h2 => hF_28 q (by omega))
  replace g_18 := g_18.keep (fun q h1 h2 => hF_28 q (by omega))
  replace g_33 := g_33.keep (fun q h1 h2 => hF_28 q (by omega))
  replace k_126 := (hF_28 (p0 + 126) (by omega)).trans k_126
  replace g_127 := g_127.keep (fun q h1 h2 => hF_28 q (by omega))
  replace g_132 := g_132.keep (fun q h1 h2 => hF_28 q (by omega))
  replace g_145 := g_145.keep (fun q h1 h2 => hF_28 q (by omega))
  replace g_160 := g_160.keep (fun q h1 h2 => hF_28 q (by omega))
  replace hE : ∀ q : Nat, q < p0 → Ω_28 q = Ω q := fun q h => (hF_28 q (by omega)).trans (hE q h)
  clear hF_28
  refine lv_iinc (v := (2 : Int32)) (lv' := [(1, .int (2 : Int32)), (0, .ref p0)]) hx hb dX8_init_109 hl (k := 0) rfl (by decide) (by decide) rfl (fun ls hl => ?_)
  refine lv_goto (tgt := 91) hx hb dX8_init_112 (by decide) ?_
  refine lv_iload_n hx hb dX8_init_91 rfl (lv_at hl 0 rfl) ?_
  refine lv_iconst (v := (2 : Int32)) hx hb dX8_init_92 (by decide) ?_
  refine lv_icmp_ge (tgt := 115) hx hb dX8_init_93 (by decide) (fun _ => ?_) (fun c_ => absurd (by decide) c_)
  obtain ⟨Ω9, k_125, hF_9, hW⟩ := oW.extq (g := fun i => some (p0 + 145 + 15 * i)) hW k_125 (fun i hi => up2 hi)
  replace k_0 := (hF_9 p0 (by omega)).trans k_0
  replace g_1 := g_1.keep (fun q h1 h2 => hF_9 q (by omega))
  replace g_3 := g_3.keep (fun q h1 h2 => hF_9 q (by omega))
  replace g_18 := g_18.keep (fun q h1 h2 => hF_9 q (by omega))
  replace g_33 := g_33.keep (fun q h1 h2 => hF_9 q (by omega))
  replace k_126 := (hF_9 (p0 + 126) (by omega)).trans k_126
  replace g_127 := g_127.keep (fun q h1 h2 => hF_9 q (by omega))
  replace g_132 := g_132.keep (fun q h1 h2 => hF_9 q (by omega))
  replace g_145 := g_145.keep (fun q h1 h2 => hF_9 q (by omega))
  replace g_160 := g_160.keep (fun q h1 h2 => hF_9 q (by omega))
  replace hE : ∀ q : Nat, q < p0 → Ω9 q = Ω q := fun q h => (hF_9 q (by omega)).trans (hE q h)
  exact W.vret hx hb hr (fun t ht hW9 => ⟨⟨Ω9, rfl, ⟨k_0, g_1, g_3, g_18, g_33, k_125, k_126, g_127, g_132, g_145, g_160, hE⟩, by rw [oBz, ht]; exact ⟨hW, hz⟩⟩, hS.F ht⟩) hS.2.2 dX8_init_115
