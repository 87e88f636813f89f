theorem dX0_init_0 : decode cX0_init 0 = .ok (.aload_n 0, 1) := by decide +kernel
theorem dX0_init_1 : decode cX0_init 1 = .ok (.invokespecial 3, 3) := by decide +kernel
theorem dX0_init_4 : decode cX0_init 4 = .ok (.aload_n 0, 1) := by decide +kernel
theorem dX0_init_5 : decode cX0_init 5 = .ok (.bipush 6, 2) := by decide +kernel
theorem dX0_init_7 : decode cX0_init 7 = .ok (.newarray .int, 2) := by decide +kernel
theorem dX0_init_9 : decode cX0_init 9 = .ok (.putfield 9, 3) := by decide +kernel
theorem dX0_init_12 : decode cX0_init 12 = .ok (.aload_n 0, 1) := by decide +kernel
theorem dX0_init_13 : decode cX0_init 13 = .ok (.bipush 6, 2) := by decide +kernel
theorem dX0_init_15 : decode cX0_init 15 = .ok (.newarray .int, 2) := by decide +kernel
theorem dX0_init_17 : decode cX0_init 17 = .ok (.putfield 15, 3) := by decide +kernel
theorem dX0_init_20 : decode cX0_init 20 = .ok (.aload_n 0, 1) := by decide +kernel
theorem dX0_init_21 : decode cX0_init 21 = .ok (.bipush 6, 2) := by decide +kernel
theorem dX0_init_23 : decode cX0_init 23 = .ok (.newarray .int, 2) := by decide +kernel
theorem dX0_init_25 : decode cX0_init 25 = .ok (.putfield 18, 3) := by decide +kernel
theorem dX0_init_28 : decode cX0_init 28 = .ok (.aload_n 0, 1) := by decide +kernel
theorem dX0_init_29 : decode cX0_init 29 = .ok (.bipush 12, 2) := by decide +kernel
theorem dX0_init_31 : decode cX0_init 31 = .ok (.newarray .int, 2) := by decide +kernel
theorem dX0_init_33 : decode cX0_init 33 = .ok (.putfield 21, 3) := by decide +kernel
theorem dX0_init_36 : decode cX0_init 36 = .ok (.aload_n 0, 1) := by decide +kernel
theorem dX0_init_37 : decode cX0_init 37 = .ok (.bipush 12, 2) := by decide +kernel
theorem dX0_init_39 : decode cX0_init 39 = .ok (.newarray .int, 2) := by decide +kernel
theorem dX0_init_41 : decode cX0_init 41 = .ok (.putfield 24, 3) := by decide +kernel
theorem dX0_init_44 : decode cX0_init 44 = .ok (.aload_n 0, 1) := by decide +kernel
theorem dX0_init_45 : decode cX0_init 45 = .ok (.bipush 12, 2) := by decide +kernel
theorem dX0_init_47 : decode cX0_init 47 = .ok (.newarray .int, 2) := by decide +kernel
theorem dX0_init_49 : decode cX0_init 49 = .ok (.putfield 27, 3) := by decide +kernel
theorem dX0_init_52 : decode cX0_init 52 = .ok (.aload_n 0, 1) := by decide +kernel
theorem dX0_init_53 : decode cX0_init 53 = .ok (.bipush 12, 2) := by decide +kernel
theorem dX0_init_55 : decode cX0_init 55 = .ok (.newarray .int, 2) := by decide +kernel
theorem dX0_init_57 : decode cX0_init 57 = .ok (.putfield 30, 3) := by decide +kernel
theorem dX0_init_60 : decode cX0_init 60 = .ok (.aload_n 0, 1) := by decide +kernel
theorem dX0_init_61 : decode cX0_init 61 = .ok (.bipush 12, 2) := by decide +kernel
theorem dX0_init_63 : decode cX0_init 63 = .ok (.newarray .int, 2) := by decide +kernel
theorem dX0_init_65 : decode cX0_init 65 = .ok (.putfield 33, 3) := by decide +kernel
theorem dX0_init_68 : decode cX0_init 68 = .ok (.aload_n 0, 1) := by decide +kernel
theorem dX0_init_69 : decode cX0_init 69 = .ok (.bipush 12, 2) := by decide +kernel
theorem dX0_init_71 : decode cX0_init 71 = .ok (.newarray .int, 2) := by decide +kernel
theorem dX0_init_73 : decode cX0_init 73 = .ok (.putfield 36, 3) := by decide +kernel
theorem dX0_init_76 : decode cX0_init 76 = .ok (.aload_n 0, 1) := by decide +kernel
theorem dX0_init_77 : decode cX0_init 77 = .ok (.iconst 4, 1) := by decide +kernel
theorem dX0_init_78 : decode cX0_init 78 = .ok (.newarray .int, 2) := by decide +kernel
theorem dX0_init_80 : decode cX0_init 80 = .ok (.putfield 39, 3) := by decide +kernel
theorem dX0_init_83 : decode cX0_init 83 = .ok (.aload_n 0, 1) := by decide +kernel
theorem dX0_init_84 : decode cX0_init 84 = .ok (.iconst 4, 1) := by decide +kernel
theorem dX0_init_85 : decode cX0_init 85 = .ok (.newarray .int, 2) := by decide +kernel
theorem dX0_init_87 : decode cX0_init 87 = .ok (.putfield 42, 3) := by decide +kernel
theorem dX0_init_90 : decode cX0_init 90 = .ok (.aload_n 0, 1) := by decide +kernel
theorem dX0_init_91 : decode cX0_init 91 = .ok (.iconst 4, 1) := by decide +kernel
theorem dX0_init_92 : decode cX0_init 92 = .ok (.newarray .int, 2) := by decide +kernel
theorem dX0_init_94 : decode cX0_init 94 = .ok (.putfield 45, 3) := by decide +kernel
theorem dX0_init_97 : decode cX0_init 97 = .ok (.return_, 1) := by decide +kernel
theorem dX1_init_0 : decode cX1_init 0 = .ok (.aload_n 0, 1) := by decide +kernel
theorem dX1_init_1 : decode cX1_init 1 = .ok (.invokespecial 3, 3) := by decide +kernel
theorem dX1_init_4 : decode cX1_init 4 = .ok (.aload_n 0, 1) := by decide +kernel
theorem dX1_init_5 : decode cX1_init 5 = .ok (.bipush 6, 2) := by decide +kernel
theorem dX1_init_7 : decode cX1_init 7 = .ok (.newarray .int, 2) := by decide +kernel
theorem dX1_init_9 : decode cX1_init 9 = .ok (.putfield 9, 3) := by decide +kernel
theorem dX1_init_12 : decode cX1_init 12 = .ok (.aload_n 0, 1) := by decide +kernel
theorem dX1_init_13 : decode cX1_init 13 = .ok (.bipush 6, 2) := by decide +kernel
theorem dX1_init_15 : decode cX1_init 15 = .ok (.newarray .int, 2) := by decide +kernel
theorem dX1_init_17 : decode cX1_init 17 = .ok (.putfield 15, 3) := by decide +kernel
theorem dX1_init_20 : decode cX1_init 20 = .ok (.aload_n 0, 1) := by decide +kernel
theorem dX1_init_21 : decode cX1_init 21 = .ok (.bipush 6, 2) := by decide +kernel
theorem dX1_init_23 : decode cX1_init 23 = .ok (.newarray .boolean, 2) := by decide +kernel
theorem dX1_init_25 : decode cX1_init 25 = .ok (.putfield 18, 3) := by decide +kernel
theorem dX1_init_28 : decode cX1_init 28 = .ok (.aload_n 0, 1) := by decide +kernel
theorem dX1_init_29 : decode cX1_init 29 = .ok (.bipush 12, 2) := by decide +kernel
theorem dX1_init_31 : decode cX1_init 31 = .ok (.newarray .int, 2) := by decide +kernel
theorem dX1_init_33 : decode cX1_init 33 = .ok (.putfield 22, 3) := by decide +kernel
theorem dX1_init_36 : decode cX1_init 36 = .ok (.return_, 1) := by decide +kernel
theorem dX3_init_0 : decode cX3_init 0 = .ok (.aload_n 0, 1) := by decide +kernel
theorem dX3_init_1 : decode cX3_init 1 = .ok (.invokespecial 3, 3) := by decide +kernel
theorem dX3_init_4 : decode cX3_init 4 = .ok (.aload_n 0, 1) := by decide +kernel
theorem dX3_init_5 : decode cX3_init 5 = .ok (.bipush 20, 2) := by decide +kernel
theorem dX3_init_7 : decode cX3_init 7 = .ok (.newarray .int, 2) := by decide +kernel
theorem dX3_init_9 : decode cX3_init 9 = .ok (.putfield 9, 3) := by decide +kernel
theorem dX3_init_12 : decode cX3_init 12 = .ok (.aload_n 0, 1) := by decide +kernel
theorem dX3_init_13 : decode cX3_init 13 = .ok (.bipush 20, 2) := by decide +kernel
theorem dX3_init_15 : decode cX3_init 15 = .ok (.newarray .boolean, 2) := by decide +kernel
theorem dX3_init_17 : decode cX3_init 17 = .ok (.putfield 15, 3) := by decide +kernel
theorem dX3_init_20 : decode cX3_init 20 = .ok (.aload_n 0, 1) := by decide +kernel
theorem dX3_init_21 : decode cX3_init 21 = .ok (.bipush 20, 2) := by decide +kernel
theorem dX3_init_23 : decode cX3_init 23 = .ok (.newarray .int, 2) := by decide +kernel
theorem dX3_init_25 : decode cX3_init 25 = .ok (.putfield 19, 3) := by decide +kernel
theorem dX3_init_28 : decode cX3_init 28 = .ok (.return_, 1) := by decide +kernel
theorem dX4_init_0 : decode cX4_init 0 = .ok (.aload_n 0, 1) := by decide +kernel
theorem dX4_init_1 : decode cX4_init 1 = .ok (.invokespecial 3, 3) := by decide +kernel
theorem dX4_init_4 : decode cX4_init 4 = .ok (.aload_n 0, 1) := by decide +kernel
theorem dX4_init_5 : decode cX4_init 5 = .ok (.new 9, 3) := by decide +kernel
theorem dX4_init_8 : decode cX4_init 8 = .ok (.dup, 1) := by decide +kernel
theorem dX4_init_9 : decode cX4_init 9 = .ok (.invokespecial 11, 3) := by decide +kernel
theorem dX4_init_12 : decode cX4_init 12 = .ok (.putfield 12, 3) := by decide +kernel
theorem dX4_init_15 : decode cX4_init 15 = .ok (.aload_n 0, 1) := by decide +kernel
theorem dX4_init_16 : decode cX4_init 16 = .ok (.new 18, 3) := by decide +kernel
theorem dX4_init_19 : decode cX4_init 19 = .ok (.dup, 1) := by decide +kernel
theorem dX4_init_20 : decode cX4_init 20 = .ok (.aload_n 1, 1) := by decide +kernel
theorem dX4_init_21 : decode cX4_init 21 = .ok (.invokespecial 20, 3) := by decide +kernel
theorem dX4_init_24 : decode cX4_init 24 = .ok (.putfield 23, 3) := by decide +kernel
theorem dX4_init_27 : decode cX4_init 27 = .ok (.return_, 1) := by decide +kernel
theorem dX5_init_0 : decode cX5_init 0 = .ok (.aload_n 0, 1) := by decide +kernel
theorem dX5_init_1 : decode cX5_init 1 = .ok (.invokespecial 3, 3) := by decide +kernel
theorem dX5_init_4 : decode cX5_init 4 = .ok (.aload_n 0, 1) := by decide +kernel
theorem dX5_init_5 : decode cX5_init 5 = .ok (.new 9, 3) := by decide +kernel
theorem dX5_init_8 : decode cX5_init 8 = .ok (.dup, 1) := by decide +kernel
theorem dX5_init_9 : decode cX5_init 9 = .ok (.invokespecial 11, 3) := by decide +kernel
theorem dX5_init_12 : decode cX5_init 12 = .ok (.putfield 12, 3) := by decide +kernel
theorem dX5_init_15 : decode cX5_init 15 = .ok (.aload_n 0, 1) := by decide +kernel
theorem dX5_init_16 : decode cX5_init 16 = .ok (.new 9, 3) := by decide +kernel
theorem dX5_init_19 : decode cX5_init 19 = .ok (.dup, 1) := by decide +kernel
theorem dX5_init_20 : decode cX5_init 20 = .ok (.invokespecial 11, 3) := by decide +kernel
theorem dX5_init_23 : decode cX5_init 23 = .ok (.putfield 18, 3) := by decide +kernel
theorem dX5_init_26 : decode cX5_init 26 = .ok (.aload_n 0, 1) := by decide +kernel
theorem dX5_init_27 : decode cX5_init 27 = .ok (.new 21, 3) := by decide +kernel
theorem dX5_init_30 : decode cX5_init 30 = .ok (.dup, 1) := by decide +kernel
theorem dX5_init_31 : decode cX5_init 31 = .ok (.invokespecial 23, 3) := by decide +kernel
theorem dX5_init_34 : decode cX5_init 34 = .ok (.putfield 24, 3) := by decide +kernel
theorem dX5_init_37 : decode cX5_init 37 = .ok (.aload_n 0, 1) := by decide +kernel
theorem dX5_init_38 : decode cX5_init 38 = .ok (.bipush (-9), 2) := by decide +kernel
theorem dX5_init_40 : decode cX5_init 40 = .ok (.putfield 28, 3) := by decide +kernel
theorem dX5_init_43 : decode cX5_init 43 = .ok (.return_, 1) := by decide +kernel
theorem dX6_init_0 : decode cX6_init 0 = .ok (.aload_n 0, 1) := by decide +kernel
theorem dX6_init_1 : decode cX6_init 1 = .ok (.invokespecial 3, 3) := by decide +kernel
theorem dX6_init_4 : decode cX6_init 4 = .ok (.aload_n 0, 1) := by decide +kernel
theorem dX6_init_5 : decode cX6_init 5 = .ok (.sipush 160, 3) := by decide +kernel
theorem dX6_init_8 : decode cX6_init 8 = .ok (.newarray .int, 2) := by decide +kernel
theorem dX6_init_10 : decode cX6_init 10 = .ok (.putfield 9, 3) := by decide +kernel
theorem dX6_init_13 : decode cX6_init 13 = .ok (.return_, 1) := by decide +kernel
theorem dX7_init_0 : decode cX7_init 0 = .ok (.aload_n 0, 1) := by decide +kernel
theorem dX7_init_1 : decode cX7_init 1 = .ok (.invokespecial 3, 3) := by decide +kernel
theorem dX7_init_4 : decode cX7_init 4 = .ok (.aload_n 0, 1) := by decide +kernel
theorem dX7_init_5 : decode cX7_init 5 = .ok (.aload_n 1, 1) := by decide +kernel
theorem dX7_init_6 : decode cX7_init 6 = .ok (.putfield 9, 3) := by decide +kernel
theorem dX7_init_9 : decode cX7_init 9 = .ok (.return_, 1) := by decide +kernel
def s0 : Sit := (((0 : Int32), (-9 : Int32), ((fun _ => 0), (fun _ => 0), (fun _ => 0), (fun _ => 0)), ((fun _ => 0), (fun _ => 0), (fun _ => 0), (fun _ => 0)), ((0 : Int32), (fun _ => 0), (fun _ => 0), (fun _ => 0))) : Sit)
def inParI (G : Gm) (Ω : Om) (o tx : Nat) : Prop := inPar G Ω o (o + 14) (o + 1) ∧ inBlk G Ω (o + 1) (fun _ _ => 0) ∧ inTok G Ω (o + 14) tx 0 0 0
theorem inParI.keep {G : Gm} {Ω Ω1 : Om} {o tx : Nat} (h : inParI G Ω o tx) (hq : ∀ q : Nat, o ≤ q → q < o + 15 → Ω1 q = Ω q) : inParI G Ω1 o tx := ⟨h.1.keep (fun q h1 h2 => hq q (by omega) (by omega)), h.2.1.keep (fun q h1 h2 => hq q (by omega) (by omega)), h.2.2.keep (fun q h1 h2 => hq q (by omega) (by omega))⟩
set_option maxHeartbeats 4000000 in
set_option maxRecDepth 100000 in
theorem c_X6_init (l : Launch) (G : Gm) (A : Nat → Prop) (Ω : Om) (p0 : Nat) (hA0 : ∀ q, p0 ≤ q → A q) (k_0 : Ω p0 = some (.inr (6, [.null, .int 0]))) : Met l yX6_init (wz yX6_init cX6_init 1 none) ({ frames := 1, cells := 1, slots := 160, locals := 12 } : Room) (va_Pc [.ref p0] (oP G A Ω (p0 + 1))) (va_Qv (fun Ω1 : Om => inTxt G Ω1 p0 (fun _ => 0) (0 : Int32) ∧ ∀ q : Nat, q < p0 → Ω1 q = Ω q) (oBz G A (p0 + 2)) A) 1 160 A := by
  refine Met.ofW (cc := cX6_init) (maxL := 1) (ret := none) (by decide) rfl ?_
  intro p e s m args below meth c s₁ B hml hv
  obtain ⟨rfl, ⟨hW, hK, hN, hZ⟩, hO, hz⟩ := hv
  have hx := B.exec
  have hb := B.bytes
  have hr := B.returns
  have hin : meth.name = "<init>" := (name_of_methodNamed B.named B.method).1
  have hts : ∀ w ∈ gt, w.before _ s = true := fun w hw => atoms_spec (ws := wz yX6_init cX6_init 1 none) B.pre w (List.mem_cons_of_mem _ hw)
  have hown : s.vm.findClass RX6 = some m.cls := findClass_of_methodNamed B.named
  have hlocks := B.notSynchronized
  have hA : ∀ q, A q → A q := fun _ h => h
  have hS : va_S A s.heap s.heap [] := va_S.rf
  have hl := lv_entry ([.ref p0]) (n := 1) (Nat.le_of_ble_eq_true rfl)
  rw [lg_entry_eq]
  generalize (lg_sl ([.ref p0]) ++ List.replicate (1 - (lg_sl ([.ref p0])).length) Slot.unset).toArray = ls at hl ⊢
  have hl : lv_has ls 1 [(0, .ref p0)] := hl
  have hE : ∀ q : Nat, q < p0 → Ω q = Ω q := fun _ _ => rfl
  refine lv_aload_n hx hb dX6_init_0 rfl (lv_at hl 0 rfl) ?_
  refine o_oI hx hb hown hts mo_X6 (hl.1.trans hml.symm) dX6_init_1 (Nat.le_of_ble_eq_true rfl) (Nat.le_of_ble_eq_true rfl) ?_
  refine lv_aload_n hx hb dX6_init_4 rfl (lv_at hl 0 rfl) ?_
  refine lv_sipush (v := (160 : Int32)) hx hb dX6_init_5 (by decide) ?_
  refine o_newI (N := 160) (h := (p0 + 1)) hx hb hts hK hW hS (hA0 _ (by omega)) (by decide) (by decide) (by decide) (Nat.le_of_ble_eq_true rfl) (Nat.le_of_ble_eq_true rfl) dX6_init_8 hz ?_
  clear hW hS hz
  intro Ω_1 H k_1 hF_1 hW hz hS
  replace hz : H.size = p0 + 2 := hz
  replace k_0 := (hF_1 p0 (by omega)).trans k_0
  replace hE : ∀ q : Nat, q < p0 → Ω_1 q = Ω q := fun q h => (hF_1 q (by omega)).trans (hE q h)
  clear hF_1
  refine o_putF hx hb hts hown hK hW hS hA k_0 rfl ig6 tyX6 tyX6_ok nmX6 0 (by decide) fl_X6_9 rfl hin rfl (ty := .array .int) (by decide +kernel) rfl rfl (Nat.le_of_ble_eq_true rfl) dX6_init_10 ?_
  clear hW hS
  intro Ω_2 H locs k_0 hF_2 hW hz1 hS
  replace hz := hz1.trans hz
  clear hz1
  replace k_0 : Ω_2 p0 = some (.inr (6, [.ref (p0 + 1), .int 0])) := k_0
  replace k_1 := (hF_2 (p0 + 1) (by omega)).trans k_1
  replace hE : ∀ q : Nat, q < p0 → Ω_2 q = Ω q := fun q h => (hF_2 q (by omega)).trans (hE q h)
  clear hF_2
  exact W.vret hx hb hr (fun t ht hW9 => ⟨⟨Ω_2, rfl, ⟨⟨k_0, k_1⟩, hE⟩, by rw [oBz, ht]; exact ⟨hW, hz⟩⟩, hS.F ht⟩) hS.2.2 dX6_init_13

set_option maxHeartbeats 4000000 in
set_option maxRecDepth 100000 in
theorem c_X1_init (l : Launch) (G : Gm) (A : Nat → Prop) (Ω : Om) (p0 : Nat) (hA0 : ∀ q, p0 ≤ q → A q) (k_0 : Ω p0 = some (.inr (1, [.null, .null, .null, .null]))) : Met l yX1_init (wz yX1_init cX1_init 1 none) ({ frames := 1, cells := 4, slots := 30, locals := 12 } : Room) (va_Pc [.ref p0] (oP G A Ω (p0 + 1))) (va_Qv (fun Ω1 : Om => inDev G Ω1 p0 (fun _ => 0) (fun _ => 0) (fun _ => 0) (fun _ => 0) ∧ ∀ q : Nat, q < p0 → Ω1 q = Ω q) (oBz G A (p0 + 5)) A) 4 30 A := by
  refine Met.ofW (cc := cX1_init) (maxL := 1) (ret := none) (by decide) rfl ?_
  intro p e s m args below meth c s₁ B hml hv
  obtain ⟨rfl, ⟨hW, hK, hN, hZ⟩, hO, hz⟩ := hv
  have hx := B.exec
  have hb := B.bytes
  have hr := B.returns
  have hin : meth.name = "<init>" := (name_of_methodNamed B.named B.method).1
  have hts : ∀ w ∈ gt, w.before _ s = true := fun w hw => atoms_spec (ws := wz yX1_init cX1_init 1 none) B.pre w (List.mem_cons_of_mem _ hw)
  have hown : s.vm.findClass RX1 = some m.cls := findClass_of_methodNamed B.named
  have hlocks := B.notSynchronized
  have hA : ∀ q, A q → A q := fun _ h => h
  have hS : va_S A s.heap s.heap [] := va_S.rf
  have hl := lv_entry ([.ref p0]) (n := 1) (Nat.le_of_ble_eq_true rfl)
  rw [lg_entry_eq]
  generalize (lg_sl ([.ref p0]) ++ List.replicate (1 - (lg_sl ([.ref p0])).length) Slot.unset).toArray = ls at hl ⊢
  have hl : lv_has ls 1 [(0, .ref p0)] := hl
  have hE : ∀ q : Nat, q < p0 → Ω q = Ω q := fun _ _ => rfl
  refine lv_aload_n hx hb dX1_init_0 rfl (lv_at hl 0 rfl) ?_
  refine o_oI hx hb hown hts mo_X1 (hl.1.trans hml.symm) dX1_init_1 (Nat.le_of_ble_eq_true rfl) (Nat.le_of_ble_eq_true rfl) ?_
  refine lv_aload_n hx hb dX1_init_4 rfl (lv_at hl 0 rfl) ?_
  refine lv_bipush (v := (6 : Int32)) hx hb dX1_init_5 (by decide) ?_
  refine o_newI (N := 6) (h := (p0 + 1)) hx hb hts hK hW hS (hA0 _ (by omega)) (by decide) (by decide) (by decide) (Nat.le_of_ble_eq_true rfl) (Nat.le_of_ble_eq_true rfl) dX1_init_7 hz ?_
  clear hW hS hz
  intro Ω_1 H k_1 hF_1 hW hz hS
  replace hz : H.size = p0 + 2 := hz
  replace k_0 := (hF_1 p0 (by omega)).trans k_0
  replace hE : ∀ q : Nat, q < p0 → Ω_1 q = Ω q := fun q h => (hF_1 q (by omega)).trans (hE q h)
  clear hF_1
  refine o_putF hx hb hts hown hK hW hS hA k_0 rfl ig1 tyX1 tyX1_ok nmX1 0 (by decide) fl_X1_9 rfl hin rfl (ty := .array .int) (by decide +kernel) rfl rfl (Nat.le_of_ble_eq_true rfl) dX1_init_9 ?_
  clear hW hS
  intro Ω_2 H locs k_0 hF_2 hW hz1 hS
  replace hz := hz1.trans hz
  clear hz1
  replace k_0 : Ω_2 p0 = some (.inr (1, [.ref (p0 + 1), .null, .null, .null])) := k_0
  replace k_1 := (hF_2 (p0 + 1) (by omega)).trans k_1
  replace hE : ∀ q : Nat, q < p0 → Ω_2 q = Ω q := fun q h => (hF_2 q (by omega)).trans (hE q h)
  clear hF_2
  refine lv_aload_n hx hb dX1_init_12 rfl (lv_at hl 0 rfl) ?_
  refine lv_bipush (v := (6 : Int32)) hx hb dX1_init_13 (by decide) ?_
  refine o_newI (N := 6) (h := (p0 + 2)) hx hb hts hK hW hS (hA0 _ (by omega)) (by decide) (by decide) (by decide) (Nat.le_of_ble_eq_true rfl) (Nat.le_of_ble_eq_true rfl) dX1_init_15 hz ?_
  clear hW hS hz
  intro Ω_3 H k_2 hF_3 hW hz hS
  replace hz : H.size = p0 + 3 := hz
  replace k_0 := (hF_3 p0 (by omega)).trans k_0
  replace k_1 := (hF_3 (p0 + 1) (by omega)).trans k_1
  replace hE : ∀ q : Nat, q < p0 → Ω_3 q = Ω q := fun q h => (hF_3 q (by omega)).trans (hE q h)
  clear hF_3
  refine o_putF hx hb hts hown hK hW hS hA k_0 rfl ig1 tyX1 tyX1_ok nmX1 1 (by decide) fl_X1_15 rfl hin rfl (ty := .array .int) (by decide +kernel) rfl rfl (Nat.le_of_ble_eq_true rfl) dX1_init_17 ?_
  clear hW hS
  intro Ω_4 H locs k_0 hF_4 hW hz1 hS
  replace hz := hz1.trans hz
  clear hz1
  replace k_0 : Ω_4 p0 = some (.inr (1, [.ref (p0 + 1), .ref (p0 + 2), .null, .null])) := k_0
  replace k_1 := (hF_4 (p0 + 1) (by omega)).trans k_1
  replace k_2 := (hF_4 (p0 + 2) (by omega)).trans k_2
  replace hE : ∀ q : Nat, q < p0 → Ω_4 q = Ω q := fun q h => (hF_4 q (by omega)).trans (hE q h)
  clear hF_4
  refine lv_aload_n hx hb dX1_init_20 rfl (lv_at hl 0 rfl) ?_
  refine lv_bipush (v := (6 : Int32)) hx hb dX1_init_21 (by decide) ?_
  refine o_newZ (N := 6) (h := (p0 + 3)) hx hb hts hK hW hS (hA0 _ (by omega)) (by decide) (by decide) (by decide) (Nat.le_of_ble_eq_true rfl) (Nat.le_of_ble_eq_true rfl) dX1_init_23 hz ?_
  clear hW hS hz
  intro Ω_5 H k_3 hF_5 hW hz hS
  replace hz : H.size = p0 + 4 := hz
  replace k_0 := (hF_5 p0 (by omega)).trans k_0
  replace k_1 := (hF_5 (p0 + 1) (by omega)).trans k_1
  replace k_2 := (hF_5 (p0 + 2) (by omega)).trans k_2
  replace hE : ∀ q : Nat, q < p0 → Ω_5 q = Ω q := fun q h => (hF_5 q (by omega)).trans (hE q h)
  clear hF_5
  refine o_putF hx hb hts hown hK hW hS hA k_0 rfl ig1 tyX1 tyX1_ok nmX1 2 (by decide) fl_X1_18 rfl hin rfl (ty := .array .boolean) (by decide +kernel) rfl rfl (Nat.le_of_ble_eq_true rfl) dX1_init_25 ?_
  clear hW hS
  intro Ω_6 H locs k_0 hF_6 hW hz1 hS
  replace hz := hz1.trans hz
  clear hz1
  replace k_0 : Ω_6 p0 = some (.inr (1, [.ref (p0 + 1), .ref (p0 + 2), .ref (p0 + 3), .null])) := k_0
  replace k_1 := (hF_6 (p0 + 1) (by omega)).trans k_1
  replace k_2 := (hF_6 (p0 + 2) (by omega)).trans k_2
  replace k_3 := (hF_6 (p0 + 3) (by omega)).trans k_3
  replace hE : ∀ q : Nat, q < p0 → Ω_6 q = Ω q := fun q h => (hF_6 q (by omega)).trans (hE q h)
  clear hF_6
  refine lv_aload_n hx hb dX1_init_28 rfl (lv_at hl 0 rfl) ?_
  refine lv_bipush (v := (12 : Int32)) hx hb dX1_init_29 (by decide) ?_
  refine o_newI (N := 12) (h := (p0 + 4)) hx hb hts hK hW hS (hA0 _ (by omega)) (by decide) (by decide) (by decide) (Nat.le_of_ble_eq_true rfl) (Nat.le_of_ble_eq_true rfl) dX1_init_31 hz ?_
  clear hW hS hz
  intro Ω_7 H k_4 hF_7 hW hz hS
  replace hz : H.size = p0 + 5 := hz
  replace k_0 := (hF_7 p0 (by omega)).trans k_0
  replace k_1 := (hF_7 (p0 + 1) (by omega)).trans k_1
  replace k_2 := (hF_7 (p0 + 2) (by omega)).trans k_2
  replace k_3 := (hF_7 (p0 + 3) (by omega)).trans k_3
  replace hE : ∀ q : Nat, q < p0 → Ω_7 q = Ω q := fun q h => (hF_7 q (by omega)).trans (hE q h)
  clear hF_7
  refine o_putF hx hb hts hown hK hW hS hA k_0 rfl ig1 tyX1 tyX1_ok nmX1 3 (by decide) fl_X1_22 rfl hin rfl (ty := .array .int) (by decide +kernel) rfl rfl (Nat.le_of_ble_eq_true rfl) dX1_init_33 ?_
  clear hW hS
  intro Ω_8 H locs k_0 hF_8 hW hz1 hS
  replace hz := hz1.trans hz
  clear hz1
  replace k_0 : Ω_8 p0 = some (.inr (1, [.ref (p0 + 1), .ref (p0 + 2), .ref (p0 + 3), .ref (p0 + 4)])) := k_0
  replace k_1 := (hF_8 (p0 + 1) (by omega)).trans k_1
  replace k_2 := (hF_8 (p0 + 2) (by omega)).trans k_2
  replace k_3 := (hF_8 (p0 + 3) (by omega)).trans k_3
  replace k_4 := (hF_8 (p0 + 4) (by omega)).trans k_4
  replace hE : ∀ q : Nat, q < p0 → Ω_8 q = Ω q := fun q h => (hF_8 q (by omega)).trans (hE q h)
  clear hF_8
  exact W.vret hx hb hr (fun t ht hW9 => ⟨⟨Ω_8, rfl, ⟨⟨k_0, k_1, k_2, k_3, k_4⟩, hE⟩, by rw [oBz, ht]; exact ⟨hW, hz⟩⟩, hS.F ht⟩) hS.2.2 dX1_init_36

set_option maxHeartbeats 4000000 in
set_option maxRecDepth 100000 in
theorem c_X3_init (l : Launch) (G : Gm) (A : Nat → Prop) (Ω : Om) (p0 : Nat) (hA0 : ∀ q, p0 ≤ q → A q) (k_0 : Ω p0 = some (.inr (3, [.int 0, .null, .null, .null]))) : Met l yX3_init (wz yX3_init cX3_init 1 none) ({ frames := 1, cells := 3, slots := 60, locals := 12 } : Room) (va_Pc [.ref p0] (oP G A Ω (p0 + 1))) (va_Qv (fun Ω1 : Om => inJou G Ω1 p0 (0 : Int32) (fun _ => 0) (fun _ => 0) (fun _ => 0) ∧ ∀ q : Nat, q < p0 → Ω1 q = Ω q) (oBz G A (p0 + 4)) A) 3 60 A := by
  refine Met.ofW (cc := cX3_init) (maxL := 1) (ret := none) (by decide) rfl ?_
  intro p e s m args below meth c s₁ B hml hv
  obtain ⟨rfl, ⟨hW, hK, hN, hZ⟩, hO, hz⟩ := hv
  have hx := B.exec
  have hb := B.bytes
  have hr := B.returns
  have hin : meth.name = "<init>" := (name_of_methodNamed B.named B.method).1
  have hts : ∀ w ∈ gt, w.before _ s = true := fun w hw => atoms_spec (ws := wz yX3_init cX3_init 1 none) B.pre w (List.mem_cons_of_mem _ hw)
  have hown : s.vm.findClass RX3 = some m.cls := findClass_of_methodNamed B.named
  have hlocks := B.notSynchronized
  have hA : ∀ q, A q → A q := fun _ h => h
  have hS : va_S A s.heap s.heap [] := va_S.rf
  have hl := lv_entry ([.ref p0]) (n := 1) (Nat.le_of_ble_eq_true rfl)
  rw [lg_entry_eq]
  generalize (lg_sl ([.ref p0]) ++ List.replicate (1 - (lg_sl ([.ref p0])).length) Slot.unset).toArray = ls at hl ⊢
  have hl : lv_has ls 1 [(0, .ref p0)] := hl
  have hE : ∀ q : Nat, q < p0 → Ω q = Ω q := fun _ _ => rfl
  refine lv_aload_n hx hb dX3_init_0 rfl (lv_at hl 0 rfl) ?_
  refine o_oI hx hb hown hts mo_X3 (hl.1.trans hml.symm) dX3_init_1 (Nat.le_of_ble_eq_true rfl) (Nat.le_of_ble_eq_true rfl) ?_
  refine lv_aload_n hx hb dX3_init_4 rfl (lv_at hl 0 rfl) ?_
  refine lv_bipush (v := (20 : Int32)) hx hb dX3_init_5 (by decide) ?_
  refine o_newI (N := 20) (h := (p0 + 1)) hx hb hts hK hW hS (hA0 _ (by omega)) (by decide) (by decide) (by decide) (Nat.le_of_ble_eq_true rfl) (Nat.le_of_ble_eq_true rfl) dX3_init_7 hz ?_
  clear hW hS hz
  intro Ω_1 H k_1 hF_1 hW hz hS
  replace hz : H.size = p0 + 2 := hz
  replace k_0 := (hF_1 p0 (by omega)).trans k_0
  replace hE : ∀ q : Nat, q < p0 → Ω_1 q = Ω q := fun q h => (hF_1 q (by omega)).trans (hE q h)
  clear hF_1
  refine o_putF hx hb hts hown hK hW hS hA k_0 rfl ig3 tyX3 tyX3_ok nmX3 1 (by decide) fl_X3_9 rfl hin rfl (ty := .array .int) (by decide +kernel) rfl rfl (Nat.le_of_ble_eq_true rfl) dX3_init_9 ?_
  clear hW hS
  intro Ω_2 H locs k_0 hF_2 hW hz1 hS
  replace hz := hz1.trans hz
  clear hz1
  replace k_0 : Ω_2 p0 = some (.inr (3, [.int 0, .ref (p0 + 1), .null, .null])) := k_0
  replace k_1 := (hF_2 (p0 + 1) (by omega)).trans k_1
  replace hE : ∀ q : Nat, q < p0 → Ω_2 q = Ω q := fun q h => (hF_2 q (by omega)).trans (hE q h)
  clear hF_2
  refine lv_aload_n hx hb dX3_init_12 rfl (lv_at hl 0 rfl) ?_
  refine lv_bipush (v := (20 : Int32)) hx hb dX3_init_13 (by decide) ?_
  refine o_newZ (N := 20) (h := (p0 + 2)) hx hb hts hK hW hS (hA0 _ (by omega)) (by decide) (by decide) (by decide) (Nat.le_of_ble_eq_true rfl) (Nat.le_of_ble_eq_true rfl) dX3_init_15 hz ?_
  clear hW hS hz
  intro Ω_3 H k_2 hF_3 hW hz hS
  replace hz : H.size = p0 + 3 := hz
  replace k_0 := (hF_3 p0 (by omega)).trans k_0
  replace k_1 := (hF_3 (p0 + 1) (by omega)).trans k_1
  replace hE : ∀ q : Nat, q < p0 → Ω_3 q = Ω q := fun q h => (hF_3 q (by omega)).trans (hE q h)
  clear hF_3
  refine o_putF hx hb hts hown hK hW hS hA k_0 rfl ig3 tyX3 tyX3_ok nmX3 2 (by decide) fl_X3_15 rfl hin rfl (ty := .array .boolean) (by decide +kernel) rfl rfl (Nat.le_of_ble_eq_true rfl) dX3_init_17 ?_
  clear hW hS
  intro Ω_4 H locs k_0 hF_4 hW hz1 hS
  replace hz := hz1.trans hz
  clear hz1
  replace k_0 : Ω_4 p0 = some (.inr (3, [.int 0, .ref (p0 + 1), .ref (p0 + 2), .null])) := k_0
  replace k_1 := (hF_4 (p0 + 1) (by omega)).trans k_1
  replace k_2 := (hF_4 (p0 + 2) (by omega)).trans k_2
  replace hE : ∀ q : Nat, q < p0 → Ω_4 q = Ω q := fun q h => (hF_4 q (by omega)).trans (hE q h)
  clear hF_4
  refine lv_aload_n hx hb dX3_init_20 rfl (lv_at hl 0 rfl) ?_
  refine lv_bipush (v := (20 : Int32)) hx hb dX3_init_21 (by decide) ?_
  refine o_newI (N := 20) (h := (p0 + 3)) hx hb hts hK hW hS (hA0 _ (by omega)) (by decide) (by decide) (by decide) (Nat.le_of_ble_eq_true rfl) (Nat.le_of_ble_eq_true rfl) dX3_init_23 hz ?_
  clear hW hS hz
  intro Ω_5 H k_3 hF_5 hW hz hS
  replace hz : H.size = p0 + 4 := hz
  replace k_0 := (hF_5 p0 (by omega)).trans k_0
  replace k_1 := (hF_5 (p0 + 1) (by omega)).trans k_1
  replace k_2 := (hF_5 (p0 + 2) (by omega)).trans k_2
  replace hE : ∀ q : Nat, q < p0 → Ω_5 q = Ω q := fun q h => (hF_5 q (by omega)).trans (hE q h)
  clear hF_5
  refine o_putF hx hb hts hown hK hW hS hA k_0 rfl ig3 tyX3 tyX3_ok nmX3 3 (by decide) fl_X3_19 rfl hin rfl (ty := .array .int) (by decide +kernel) rfl rfl (Nat.le_of_ble_eq_true rfl) dX3_init_25 ?_
  clear hW hS
  intro Ω_6 H locs k_0 hF_6 hW hz1 hS
  replace hz := hz1.trans hz
  clear hz1
  replace k_0 : Ω_6 p0 = some (.inr (3, [.int 0, .ref (p0 + 1), .ref (p0 + 2), .ref (p0 + 3)])) := k_0
  replace k_1 := (hF_6 (p0 + 1) (by omega)).trans k_1
  replace k_2 := (hF_6 (p0 + 2) (by omega)).trans k_2
  replace k_3 := (hF_6 (p0 + 3) (by omega)).trans k_3
  replace hE : ∀ q : Nat, q < p0 → Ω_6 q = Ω q := fun q h => (hF_6 q (by omega)).trans (hE q h)
  clear hF_6
  exact W.vret hx hb hr (fun t ht hW9 => ⟨⟨Ω_6, rfl, ⟨⟨k_0, k_1, k_2, k_3⟩, hE⟩, by rw [oBz, ht]; exact ⟨hW, hz⟩⟩, hS.F ht⟩) hS.2.2 dX3_init_28

set_option maxHeartbeats 4000000 in
set_option maxRecDepth 100000 in
theorem c_X0_init (l : Launch) (G : Gm) (A : Nat → Prop) (Ω : Om) (p0 : Nat) (hA0 : ∀ q, p0 ≤ q → A q) (k_0 : Ω p0 = some (.inr (0, [.int 0, .int 0, .int 0, .null, .null, .null, .null, .null, .null, .null, .null, .null, .null, .null, .null]))) : Met l yX0_init (wz yX0_init cX0_init 1 none) ({ frames := 1, cells := 12, slots := 102, locals := 12 } : Room) (va_Pc [.ref p0] (oP G A Ω (p0 + 1))) (va_Qv (fun Ω1 : Om => inBlk G Ω1 p0 (fun _ _ => 0) ∧ ∀ q : Nat, q < p0 → Ω1 q = Ω q) (oBz G A (p0 + 13)) A) 12 102 A := by
  refine Met.ofW (cc := cX0_init) (maxL := 1) (ret := none) (by decide) rfl ?_
  intro p e s m args below meth c s₁ B hml hv
  obtain ⟨rfl, ⟨hW, hK, hN, hZ⟩, hO, hz⟩ := hv
  have hx := B.exec
  have hb := B.bytes
  have hr := B.returns
  have hin : meth.name = "<init>" := (name_of_methodNamed B.named B.method).1
  have hts : ∀ w ∈ gt, w.before _ s = true := fun w hw => atoms_spec (ws := wz yX0_init cX0_init 1 none) B.pre w (List.mem_cons_of_mem _ hw)
  have hown : s.vm.findClass RX0 = some m.cls := findClass_of_methodNamed B.named
  have hlocks := B.notSynchronized
  have hA : ∀ q, A q → A q := fun _ h => h
  have hS : va_S A s.heap s.heap [] := va_S.rf
  have hl := lv_entry ([.ref p0]) (n := 1) (Nat.le_of_ble_eq_true rfl)
  rw [lg_entry_eq]
  generalize (lg_sl ([.ref p0]) ++ List.replicate (1 - (lg_sl ([.ref p0])).length) Slot.unset).toArray = ls at hl ⊢
  have hl : lv_has ls 1 [(0, .ref p0)] := hl
  have hE : ∀ q : Nat, q < p0 → Ω q = Ω q := fun _ _ => rfl
  refine lv_aload_n hx hb dX0_init_0 rfl (lv_at hl 0 rfl) ?_
  refine o_oI hx hb hown hts mo_X0 (hl.1.trans hml.symm) dX0_init_1 (Nat.le_of_ble_eq_true rfl) (Nat.le_of_ble_eq_true rfl) ?_
  refine lv_aload_n hx hb dX0_init_4 rfl (lv_at hl 0 rfl) ?_
  refine lv_bipush (v := (6 : Int32)) hx hb dX0_init_5 (by decide) ?_
  refine o_newI (N := 6) (h := (p0 + 1)) hx hb hts hK hW hS (hA0 _ (by omega)) (by decide) (by decide) (by decide) (Nat.le_of_ble_eq_true rfl) (Nat.le_of_ble_eq_true rfl) dX0_init_7 hz ?_
  clear hW hS hz
  intro Ω_1 H k_1 hF_1 hW hz hS
  replace hz : H.size = p0 + 2 := hz
  replace k_0 := (hF_1 p0 (by omega)).trans k_0
  replace hE : ∀ q : Nat, q < p0 → Ω_1 q = Ω q := fun q h => (hF_1 q (by omega)).trans (hE q h)
  clear hF_1
  refine o_putF hx hb hts hown hK hW hS hA k_0 rfl ig0 tyX0 tyX0_ok nmX0 3 (by decide) fl_X0_9 rfl hin rfl (ty := .array .int) (by decide +kernel) rfl rfl (Nat.le_of_ble_eq_true rfl) dX0_init_9 ?_
  clear hW hS
  intro Ω_2 H locs k_0 hF_2 hW hz1 hS
  replace hz := hz1.trans hz
  clear hz1
  replace k_0 : Ω_2 p0 = some (.inr (0, [.int 0, .int 0, .int 0, .ref (p0 + 1), .null, .null, .null, .null, .null, .null, .null, .null, .null, .null, .null])) := k_0
  replace k_1 := (hF_2 (p0 + 1) (by omega)).trans k_1
  replace hE : ∀ q : Nat, q < p0 → Ω_2 q = Ω q := fun q h => (hF_2 q (by omega)).trans (hE q h)
  clear hF_2
  refine lv_aload_n hx hb dX0_init_12 rfl (lv_at hl 0 rfl) ?_
  refine lv_bipush (v := (6 : Int32)) hx hb dX0_init_13 (by decide) ?_
  refine o_newI (N := 6) (h := (p0 + 2)) hx hb hts hK hW hS (hA0 _ (by omega)) (by decide) (by decide) (by decide) (Nat.le_of_ble_eq_true rfl) (Nat.le_of_ble_eq_true rfl) dX0_init_15 hz ?_
  clear hW hS hz
  intro Ω_3 H k_2 hF_3 hW hz hS
  replace hz : H.size = p0 + 3 := hz
  replace k_0 := (hF_3 p0 (by omega)).trans k_0
  replace k_1 := (hF_3 (p0 + 1) (by omega)).trans k_1
  replace hE : ∀ q : Nat, q < p0 → Ω_3 q = Ω q := fun q h => (hF_3 q (by omega)).trans (hE q h)
  clear hF_3
  refine o_putF hx hb hts hown hK hW hS hA k_0 rfl ig0 tyX0 tyX0_ok nmX0 4 (by decide) fl_X0_15 rfl hin rfl (ty := .array .int) (by decide +kernel) rfl rfl (Nat.le_of_ble_eq_true rfl) dX0_init_17 ?_
  clear hW hS
  intro Ω_4 H locs k_0 hF_4 hW hz1 hS
  replace hz := hz1.trans hz
  clear hz1
  replace k_0 : Ω_4 p0 = some (.inr (0, [.int 0, .int 0, .int 0, .ref (p0 + 1), .ref (p0 + 2), .null, .null, .null, .null, .null, .null, .null, .null, .null, .null])) := k_0
  replace k_1 := (hF_4 (p0 + 1) (by omega)).trans k_1
  replace k_2 := (hF_4 (p0 + 2) (by omega)).trans k_2
  replace hE : ∀ q : Nat, q < p0 → Ω_4 q = Ω q := fun q h => (hF_4 q (by omega)).trans (hE q h)
  clear hF_4
  refine lv_aload_n hx hb dX0_init_20 rfl (lv_at hl 0 rfl) ?_
  refine lv_bipush (v := (6 : Int32)) hx hb dX0_init_21 (by decide) ?_
  refine o_newI (N := 6) (h := (p0 + 3)) hx hb hts hK hW hS (hA0 _ (by omega)) (by decide) (by decide) (by decide) (Nat.le_of_ble_eq_true rfl) (Nat.le_of_ble_eq_true rfl) dX0_init_23 hz ?_
  clear hW hS hz
  intro Ω_5 H k_3 hF_5 hW hz hS
  replace hz : H.size = p0 + 4 := hz
  replace k_0 := (hF_5 p0 (by omega)).trans k_0
  replace k_1 := (hF_5 (p0 + 1) (by omega)).trans k_1
  replace k_2 := (hF_5 (p0 + 2) (by omega)).trans k_2
  replace hE : ∀ q : Nat, q < p0 → Ω_5 q = Ω q := fun q h => (hF_5 q (by omega)).trans (hE q h)
  clear hF_5
  refine o_putF hx hb hts hown hK hW hS hA k_0 rfl ig0 tyX0 tyX0_ok nmX0 5 (by decide) fl_X0_18 rfl hin rfl (ty := .array .int) (by decide +kernel) rfl rfl (Nat.le_of_ble_eq_true rfl) dX0_init_25 ?_
  clear hW hS
  intro Ω_6 H locs k_0 hF_6 hW hz1 hS
  replace hz := hz1.trans hz
  clear hz1
  replace k_0 : Ω_6 p0 = some (.inr (0, [.int 0, .int 0, .int 0, .ref (p0 + 1), .ref (p0 + 2), .ref (p0 + 3), .null, .null, .null, .null, .null, .null, .null, .null, .null])) := k_0
  replace k_1 := (hF_6 (p0 + 1) (by omega)).trans k_1
  replace k_2 := (hF_6 (p0 + 2) (by omega)).trans k_2
  replace k_3 := (hF_6 (p0 + 3) (by omega)).trans k_3
  replace hE : ∀ q : Nat, q < p0 → Ω_6 q = Ω q := fun q h => (hF_6 q (by omega)).trans (hE q h)
  clear hF_6
  refine lv_aload_n hx hb dX0_init_28 rfl (lv_at hl 0 rfl) ?_
  refine lv_bipush (v := (12 : Int32)) hx hb dX0_init_29 (by decide) ?_
  refine o_newI (N := 12) (h := (p0 + 4)) hx hb hts hK hW hS (hA0 _ (by omega)) (by decide) (by decide) (by decide) (Nat.le_of_ble_eq_true rfl) (Nat.le_of_ble_eq_true rfl) dX0_init_31 hz ?_
  clear hW hS hz
  intro Ω_7 H k_4 hF_7 hW hz hS
  replace hz : H.size = p0 + 5 := hz
  replace k_0 := (hF_7 p0 (by omega)).trans k_0
  replace k_1 := (hF_7 (p0 + 1) (by omega)).trans k_1
  replace k_2 := (hF_7 (p0 + 2) (by omega)).trans k_2
  replace k_3 := (hF_7 (p0 + 3) (by omega)).trans k_3
  replace hE : ∀ q : Nat, q < p0 → Ω_7 q = Ω q := fun q h => (hF_7 q (by omega)).trans (hE q h)
  clear hF_7
  refine o_putF hx hb hts hown hK hW hS hA k_0 rfl ig0 tyX0 tyX0_ok nmX0 6 (by decide) fl_X0_21 rfl hin rfl (ty := .array .int) (by decide +kernel) rfl rfl (Nat.le_of_ble_eq_true rfl) dX0_init_33 ?_
  clear hW hS
  intro Ω_8 H locs k_0 hF_8 hW hz1 hS
  replace hz := hz1.trans hz
  clear hz1
  replace k_0 : Ω_8 p0 = some (.inr (0, [.int 0, .int 0, .int 0, .ref (p0 + 1), .ref (p0 + 2), .ref (p0 + 3), .ref (p0 + 4), .null, .null, .null, .null, .null, .null, .null, .null])) := k_0
  replace k_1 := (hF_8 (p0 + 1) (by omega)).trans k_1
  replace k_2 := (hF_8 (p0 + 2) (by omega)).trans k_2
  replace k_3 := (hF_8 (p0 + 3) (by omega)).trans k_3
  replace k_4 := (hF_8 (p0 + 4) (by omega)).trans k_4
  replace hE : ∀ q : Nat, q < p0 → Ω_8 q = Ω q := fun q h => (hF_8 q (by omega)).trans (hE q h)
  clear hF_8
  refine lv_aload_n hx hb dX0_init_36 rfl (lv_at hl 0 rfl) ?_
  refine lv_bipush (v := (12 : Int32)) hx hb dX0_init_37 (by decide) ?_
  refine o_newI (N := 12) (h := (p0 + 5)) hx hb hts hK hW hS (hA0 _ (by omega)) (by decide) (by decide) (by decide) (Nat.le_of_ble_eq_true rfl) (Nat.le_of_ble_eq_true rfl) dX0_init_39 hz ?_
  clear hW hS hz
  intro Ω_9 H k_5 hF_9 hW hz hS
  replace hz : H.size = p0 + 6 := hz
  replace k_0 := (hF_9 p0 (by omega)).trans k_0
  replace k_1 := (hF_9 (p0 + 1) (by omega)).trans k_1
  replace k_2 := (hF_9 (p0 + 2) (by omega)).trans k_2
  replace k_3 := (hF_9 (p0 + 3) (by omega)).trans k_3
  replace k_4 := (hF_9 (p0 + 4) (by omega)).trans k_4
  replace hE : ∀ q : Nat, q < p0 → Ω_9 q = Ω q := fun q h => (hF_9 q (by omega)).trans (hE q h)
  clear hF_9
  refine o_putF hx hb hts hown hK hW hS hA k_0 rfl ig0 tyX0 tyX0_ok nmX0 7 (by decide) fl_X0_24 rfl hin rfl (ty := .array .int) (by decide +kernel) rfl rfl (Nat.le_of_ble_eq_true rfl) dX0_init_41 ?_
  clear hW hS
  intro Ω_10 H locs k_0 hF_10 hW hz1 hS
  replace hz := hz1.trans hz
  clear hz1
  replace k_0 : Ω_10 p0 = some (.inr (0, [.int 0, .int 0, .int 0, .ref (p0 + 1), .ref (p0 + 2), .ref (p0 + 3), .ref (p0 + 4), .ref (p0 + 5), .null, .null, .null, .null, .null, .null, .null])) := k_0
  replace k_1 := (hF_10 (p0 + 1) (by omega)).trans k_1
  replace k_2 := (hF_10 (p0 + 2) (by omega)).trans k_2
  replace k_3 := (hF_10 (p0 + 3) (by omega)).trans k_3
  replace k_4 := (hF_10 (p0 + 4) (by omega)).trans k_4
  replace k_5 := (hF_10 (p0 + 5) (by omega)).trans k_5
  replace hE : ∀ q : Nat, q < p0 → Ω_10 q = Ω q := fun q h => (hF_10 q (by omega)).trans (hE q h)
  clear hF_10
  refine lv_aload_n hx hb dX0_init_44 rfl (lv_at hl 0 rfl) ?_
  refine lv_bipush (v := (12 : Int32)) hx hb dX0_init_45 (by decide) ?_
  refine o_newI (N := 12) (h := (p0 + 6)) hx hb hts hK hW hS (hA0 _ (by omega)) (by decide) (by decide) (by decide) (Nat.le_of_ble_eq_true rfl) (Nat.le_of_ble_eq_true rfl) dX0_init_47 hz ?_
  clear hW hS hz
  intro Ω_11 H k_6 hF_11 hW hz hS
  replace hz : H.size = p0 + 7 := hz
  replace k_0 := (hF_11 p0 (by omega)).trans k_0
  replace k_1 := (hF_11 (p0 + 1) (by omega)).trans k_1
  replace k_2 := (hF_11 (p0 + 2) (by omega)).trans k_2
  replace k_3 := (hF_11 (p0 + 3) (by omega)).trans k_3
  replace k_4 := (hF_11 (p0 + 4) (by omega)).trans k_4
  replace k_5 := (hF_11 (p0 + 5) (by omega)).trans k_5
  replace hE : ∀ q : Nat, q < p0 → Ω_11 q = Ω q := fun q h => (hF_11 q (by omega)).trans (hE q h)
  clear hF_11
  refine o_putF hx hb hts hown hK hW hS hA k_0 rfl ig0 tyX0 tyX0_ok nmX0 8 (by decide) fl_X0_27 rfl hin rfl (ty := .array .int) (by decide +kernel) rfl rfl (Nat.le_of_ble_eq_true rfl) dX0_init_49 ?_
  clear hW hS
  intro Ω_12 H locs k_0 hF_12 hW hz1 hS
  replace hz := hz1.trans hz
  clear hz1
  replace k_0 : Ω_12 p0 = some (.inr (0, [.int 0, .int 0, .int 0, .ref (p0 + 1), .ref (p0 + 2), .ref (p0 + 3), .ref (p0 + 4), .ref (p0 + 5), .ref (p0 + 6), .null, .null, .null, .null, .null, .null])) := k_0
  replace k_1 := (hF_12 (p0 + 1) (by omega)).trans k_1
  replace k_2 := (hF_12 (p0 + 2) (by omega)).trans k_2
  replace k_3 := (hF_12 (p0 + 3) (by omega)).trans k_3
  replace k_4 := (hF_12 (p0 + 4) (by omega)).trans k_4
  replace k_5 := (hF_12 (p0 + 5) (by omega)).trans k_5
  replace k_6 := (hF_12 (p0 + 6) (by omega)).trans k_6
  replace hE : ∀ q : Nat, q < p0 → Ω_12 q = Ω q := fun q h => (hF_12 q (by omega)).trans (hE q h)
  clear hF_12
  refine lv_aload_n hx hb dX0_init_52 rfl (lv_at hl 0 rfl) ?_
  refine lv_bipush (v := (12 : Int32)) hx hb dX0_init_53 (by decide) ?_
  refine o_newI (N := 12) (h := (p0 + 7)) hx hb hts hK hW hS (hA0 _ (by omega)) (by decide) (by decide) (by decide) (Nat.le_of_ble_eq_true rfl) (Nat.le_of_ble_eq_true rfl) dX0_init_55 hz ?_
  clear hW hS hz
  intro Ω_13 H k_7 hF_13 hW hz hS
  replace hz : H.size = p0 + 8 := hz
  replace k_0 := (hF_13 p0 (by omega)).trans k_0
  replace k_1 := (hF_13 (p0 + 1) (by omega)).trans k_1
  replace k_2 := (hF_13 (p0 + 2) (by omega)).trans k_2
  replace k_3 := (hF_13 (p0 + 3) (by omega)).trans k_3
  replace k_4 := (hF_13 (p0 + 4) (by omega)).trans k_4
  replace k_5 := (hF_13 (p0 + 5) (by omega)).trans k_5
  replace k_6 := (hF_13 (p0 + 6) (by omega)).trans k_6
  replace hE : ∀ q : Nat, q < p0 → Ω_13 q = Ω q := fun q h => (hF_13 q (by omega)).trans (hE q h)
  clear hF_13
  refine o_putF hx hb hts hown hK hW hS hA k_0 rfl ig0 tyX0 tyX0_ok nmX0 9 (by decide) fl_X0_30 rfl hin rfl (ty := .array .int) (by decide +kernel) rfl rfl (Nat.le_of_ble_eq_true rfl) dX0_init_57 ?_
  clear hW hS
  intro Ω_14 H locs k_0 hF_14 hW hz1 hS
  replace hz := hz1.trans hz
  clear hz1
  replace k_0 : Ω_14 p0 = some (.inr (0, [.int 0, .int 0, .int 0, .ref (p0 + 1), .ref (p0 + 2), .ref (p0 + 3), .ref (p0 + 4), .ref (p0 + 5), .ref (p0 + 6), .ref (p0 + 7), .null, .null, .null, .null, .null])) := k_0
  replace k_1 := (hF_14 (p0 + 1) (by omega)).trans k_1
  replace k_2 := (hF_14 (p0 + 2) (by omega)).trans k_2
  replace k_3 := (hF_14 (p0 + 3) (by omega)).trans k_3
  replace k_4 := (hF_14 (p0 + 4) (by omega)).trans k_4
  replace k_5 := (hF_14 (p0 + 5) (by omega)).trans k_5
  replace k_6 := (hF_14 (p0 + 6) (by omega)).trans k_6
  replace k_7 := (hF_14 (p0 + 7) (by omega)).trans k_7
  replace hE : ∀ q : Nat, q < p0 → Ω_14 q = Ω q := fun q h => (hF_14 q (by omega)).trans (hE q h)
  clear hF_14
  refine lv_aload_n hx hb dX0_init_60 rfl (lv_at hl 0 rfl) ?_
  refine lv_bipush (v := (12 : Int32)) hx hb dX0_init_61 (by decide) ?_
  refine o_newI (N := 12) (h := (p0 + 8)) hx hb hts hK hW hS (hA0 _ (by omega)) (by decide) (by decide) (by decide) (Nat.le_of_ble_eq_true rfl) (Nat.le_of_ble_eq_true rfl) dX0_init_63 hz ?_
  clear hW hS hz
  intro Ω_15 H k_8 hF_15 hW hz hS
  replace hz : H.size = p0 + 9 := hz
  replace k_0 := (hF_15 p0 (by omega)).trans k_0
  replace k_1 := (hF_15 (p0 + 1) (by omega)).trans k_1
  replace k_2 := (hF_15 (p0 + 2) (by omega)).trans k_2
  replace k_3 := (hF_15 (p0 + 3) (by omega)).trans k_3
  replace k_4 := (hF_15 (p0 + 4) (by omega)).trans k_4
  replace k_5 := (hF_15 (p0 + 5) (by omega)).trans k_5
  replace k_6 := (hF_15 (p0 + 6) (by omega)).trans k_6
  replace k_7 := (hF_15 (p0 + 7) (by omega)).trans k_7
  replace hE : ∀ q : Nat, q < p0 → Ω_15 q = Ω q := fun q h => (hF_15 q (by omega)).trans (hE q h)
  clear hF_15
  refine o_putF hx hb hts hown hK hW hS hA k_0 rfl ig0 tyX0 tyX0_ok nmX0 10 (by decide) fl_X0_33 rfl hin rfl (ty := .array .int) (by decide +kernel) rfl rfl (Nat.le_of_ble_eq_true rfl) dX0_init_65 ?_
  clear hW hS
  intro Ω_16 H locs k_0 hF_16 hW hz1 hS
  replace hz := hz1.trans hz
  clear hz1
  replace k_0 : Ω_16 p0 = some (.inr (0, [.int 0, .int 0, .int 0, .ref (p0 + 1), .ref (p0 + 2), .ref (p0 + 3), .ref (p0 + 4), .ref (p0 + 5), .ref (p0 + 6), .ref (p0 + 7), .ref (p0 + 8), .null, .null, .null, .null])) := k_0
  replace k_1 := (hF_16 (p0 + 1) (by omega)).trans k_1
  replace k_2 := (hF_16 (p0 + 2) (by omega)).trans k_2
  replace k_3 := (hF_16 (p0 + 3) (by omega)).trans k_3
  replace k_4 := (hF_16 (p0 + 4) (by omega)).trans k_4
  replace k_5 := (hF_16 (p0 + 5) (by omega)).trans k_5
  replace k_6 := (hF_16 (p0 + 6) (by omega)).trans k_6
  replace k_7 := (hF_16 (p0 + 7) (by omega)).trans k_7
  replace k_8 := (hF_16 (p0 + 8) (by omega)).trans k_8
  replace hE : ∀ q : Nat, q < p0 → Ω_16 q = Ω q := fun q h => (hF_16 q (by omega)).trans (hE q h)
  clear hF_16
  refine lv_aload_n hx hb dX0_init_68 rfl (lv_at hl 0 rfl) ?_
  refine lv_bipush (v := (12 : Int32)) hx hb dX0_init_69 (by decide) ?_
  refine o_newI (N := 12) (h := (p0 + 9)) hx hb hts hK hW hS (hA0 _ (by omega)) (by decide) (by decide) (by decide) (Nat.le_of_ble_eq_true rfl) (Nat.le_of_ble_eq_true rfl) dX0_init_71 hz ?_
  clear hW hS hz
  intro Ω_17 H k_9 hF_17 hW hz hS
  replace hz : H.size = p0 + 10 := hz
  replace k_0 := (hF_17 p0 (by omega)).trans k_0
  replace k_1 := (hF_17 (p0 + 1) (by omega)).trans k_1
  replace k_2 := (hF_17 (p0 + 2) (by omega)).trans k_2
  replace k_3 := (hF_17 (p0 + 3) (by omega)).trans k_3
  replace k_4 := (hF_17 (p0 + 4) (by omega)).trans k_4
  replace k_5 := (hF_17 (p0 + 5) (by omega)).trans k_5
  replace k_6 := (hF_17 (p0 + 6) (by omega)).trans k_6
  replace k_7 := (hF_17 (p0 + 7) (by omega)).trans k_7
  replace k_8 := (hF_17 (p0 + 8) (by omega)).trans k_8
  replace hE : ∀ q : Nat, q < p0 → Ω_17 q = Ω q := fun q h => (hF_17 q (by omega)).trans (hE q h)
  clear hF_17
  refine o_putF hx hb hts hown hK hW hS hA k_0 rfl ig0 tyX0 tyX0_ok nmX0 11 (by decide) fl_X0_36 rfl hin rfl (ty := .array .int) (by decide +kernel) rfl rfl (Nat.le_of_ble_eq_true rfl) dX0_init_73 ?_
  clear hW hS
  intro Ω_18 H locs k_0 hF_18 hW hz1 hS
  replace hz := hz1.trans hz
  clear hz1
  replace k_0 : Ω_18 p0 = some (.inr (0, [.int 0, .int 0, .int 0, .ref (p0 + 1), .ref (p0 + 2), .ref (p0 + 3), .ref (p0 + 4), .ref (p0 + 5), .ref (p0 + 6), .ref (p0 + 7), .ref (p0 + 8), .ref (p0 + 9), .null, .null, .null])) := k_0
  replace k_1 := (hF_18 (p0 + 1) (by omega)).trans k_1
  replace k_2 := (hF_18 (p0 + 2) (by omega)).trans k_2
  replace k_3 := (hF_18 (p0 + 3) (by omega)).trans k_3
  replace k_4 := (hF_18 (p0 + 4) (by omega)).trans k_4
  replace k_5 := (hF_18 (p0 + 5) (by omega)).trans k_5
  replace k_6 := (hF_18 (p0 + 6) (by omega)).trans k_6
  replace k_7 := (hF_18 (p0 + 7) (by omega)).trans k_7
  replace k_8 := (hF_18 (p0 + 8) (by omega)).trans k_8
  replace k_9 := (hF_18 (p0 + 9) (by omega)).trans k_9
  replace hE : ∀ q : Nat, q < p0 → Ω_18 q = Ω q := fun q h => (hF_18 q (by omega)).trans (hE q h)
  clear hF_18
  refine lv_aload_n hx hb dX0_init_76 rfl (lv_at hl 0 rfl) ?_
  refine lv_iconst (v := (4 : Int32)) hx hb dX0_init_77 (by decide) ?_
  refine o_newI (N := 4) (h := (p0 + 10)) hx hb hts hK hW hS (hA0 _ (by omega)) (by decide) (by decide) (by decide) (Nat.le_of_ble_eq_true rfl) (Nat.le_of_ble_eq_true rfl) dX0_init_78 hz ?_
  clear hW hS hz
  intro Ω_19 H k_10 hF_19 hW hz hS
  replace hz : H.size = p0 + 11 := hz
  replace k_0 := (hF_19 p0 (by omega)).trans k_0
  replace k_1 := (hF_19 (p0 + 1) (by omega)).trans k_1
  replace k_2 := (hF_19 (p0 + 2) (by omega)).trans k_2
  replace k_3 := (hF_19 (p0 + 3) (by omega)).trans k_3
  replace k_4 := (hF_19 (p0 + 4) (by omega)).trans k_4
  replace k_5 := (hF_19 (p0 + 5) (by omega)).trans k_5
  replace k_6 := (hF_19 (p0 + 6) (by omega)).trans k_6
  replace k_7 := (hF_19 (p0 + 7) (by omega)).trans k_7
  replace k_8 := (hF_19 (p0 + 8) (by omega)).trans k_8
  replace k_9 := (hF_19 (p0 + 9) (by omega)).trans k_9
  replace hE : ∀ q : Nat, q < p0 → Ω_19 q = Ω q := fun q h => (hF_19 q (by omega)).trans (hE q h)
  clear hF_19
  refine o_putF hx hb hts hown hK hW hS hA k_0 rfl ig0 tyX0 tyX0_ok nmX0 12 (by decide) fl_X0_39 rfl hin rfl (ty := .array .int) (by decide +kernel) rfl rfl (Nat.le_of_ble_eq_true rfl) dX0_init_80 ?_
  clear hW hS
  intro Ω_20 H locs k_0 hF_20 hW hz1 hS
  replace hz := hz1.trans hz
  clear hz1
  replace k_0 : Ω_20 p0 = some (.inr (0, [.int 0, .int 0, .int 0, .ref (p0 + 1), .ref (p0 + 2), .ref (p0 + 3), .ref (p0 + 4), .ref (p0 + 5), .ref (p0 + 6), .ref (p0 + 7), .ref (p0 + 8), .ref (p0 + 9), .ref (p0 + 10), .null, .null])) := k_0
  replace k_1 := (hF_20 (p0 + 1) (by omega)).trans k_1
  replace k_2 := (hF_20 (p0 + 2) (by omega)).trans k_2
  replace k_3 := (hF_20 (p0 + 3) (by omega)).trans k_3
  replace k_4 := (hF_20 (p0 + 4) (by omega)).trans k_4
  replace k_5 := (hF_20 (p0 + 5) (by omega)).trans k_5
  replace k_6 := (hF_20 (p0 + 6) (by omega)).trans k_6
  replace k_7 := (hF_20 (p0 + 7) (by omega)).trans k_7
  replace k_8 := (hF_20 (p0 + 8) (by omega)).trans k_8
  replace k_9 := (hF_20 (p0 + 9) (by omega)).trans k_9
  replace k_10 := (hF_20 (p0 + 10) (by omega)).trans k_10
  replace hE : ∀ q : Nat, q < p0 → Ω_20 q = Ω q := fun q h => (hF_20 q (by omega)).trans (hE q h)
  clear hF_20
  refine lv_aload_n hx hb dX0_init_83 rfl (lv_at hl 0 rfl) ?_
  refine lv_iconst (v := (4 : Int32)) hx hb dX0_init_84 (by decide) ?_
  refine o_newI (N := 4) (h := (p0 + 11)) hx hb hts hK hW hS (hA0 _ (by omega)) (by decide) (by decide) (by decide) (Nat.le_of_ble_eq_true rfl) (Nat.le_of_ble_eq_true rfl) dX0_init_85 hz ?_
  clear hW hS hz
  intro Ω_21 H k_11 hF_21 hW hz hS
  replace hz : H.size = p0 + 12 := hz
  replace k_0 := (hF_21 p0 (by omega)).trans k_0
  replace k_1 := (hF_21 (p0 + 1) (by omega)).trans k_1
  replace k_2 := (hF_21 (p0 + 2) (by omega)).trans k_2
  replace k_3 := (hF_21 (p0 + 3) (by omega)).trans k_3
  replace k_4 := (hF_21 (p0 + 4) (by omega)).trans k_4
  replace k_5 := (hF_21 (p0 + 5) (by omega)).trans k_5
  replace k_6 := (hF_21 (p0 + 6) (by omega)).trans k_6
  replace k_7 := (hF_21 (p0 + 7) (by omega)).trans k_7
  replace k_8 := (hF_21 (p0 + 8) (by omega)).trans k_8
  replace k_9 := (hF_21 (p0 + 9) (by omega)).trans k_9
  replace k_10 := (hF_21 (p0 + 10) (by omega)).trans k_10
  replace hE : ∀ q : Nat, q < p0 → Ω_21 q = Ω q := fun q h => (hF_21 q (by omega)).trans (hE q h)
  clear hF_21
  refine o_putF hx hb hts hown hK hW hS hA k_0 rfl ig0 tyX0 tyX0_ok nmX0 13 (by decide) fl_X0_42 rfl hin rfl (ty := .array .int) (by decide +kernel) rfl rfl (Nat.le_of_ble_eq_true rfl) dX0_init_87 ?_
  clear hW hS
  intro Ω_22 H locs k_0 hF_22 hW hz1 hS
  replace hz := hz1.trans hz
  clear hz1
  replace k_0 : Ω_22 p0 = some (.inr (0, [.int 0, .int 0, .int 0, .ref (p0 + 1), .ref (p0 + 2), .ref (p0 + 3), .ref (p0 + 4), .ref (p0 + 5), .ref (p0 + 6), .ref (p0 + 7), .ref (p0 + 8), .ref (p0 + 9), .ref (p0 + 10), .ref (p0 + 11), .null])) := k_0
  replace k_1 := (hF_22 (p0 + 1) (by omega)).trans k_1
  replace k_2 := (hF_22 (p0 + 2) (by omega)).trans k_2
  replace k_3 := (hF_22 (p0 + 3) (by omega)).trans k_3
  replace k_4 := (hF_22 (p0 + 4) (by omega)).trans k_4
  replace k_5 := (hF_22 (p0 + 5) (by omega)).trans k_5
  replace k_6 := (hF_22 (p0 + 6) (by omega)).trans k_6
  replace k_7 := (hF_22 (p0 + 7) (by omega)).trans k_7
  replace k_8 := (hF_22 (p0 + 8) (by omega)).trans k_8
  replace k_9 := (hF_22 (p0 + 9) (by omega)).trans k_9
  replace k_10 := (hF_22 (p0 + 10) (by omega)).trans k_10
  replace k_11 := (hF_22 (p0 + 11) (by omega)).trans k_11
  replace hE : ∀ q : Nat, q < p0 → Ω_22 q = Ω q := fun q h => (hF_22 q (by omega)).trans (hE q h)
  clear hF_22
  refine lv_aload_n hx hb dX0_init_90 rfl (lv_at hl 0 rfl) ?_
  refine lv_iconst (v := (4 : Int32)) hx hb dX0_init_91 (by decide) ?_
  refine o_newI (N := 4) (h := (p0 + 12)) hx hb hts hK hW hS (hA0 _ (by omega)) (by decide) (by decide) (by decide) (Nat.le_of_ble_eq_true rfl) (Nat.le_of_ble_eq_true rfl) dX0_init_92 hz ?_
  clear hW hS hz
  intro Ω_23 H k_12 hF_23 hW hz hS
  replace hz : H.size = p0 + 13 := hz
  replace k_0 := (hF_23 p0 (by omega)).trans k_0
  replace k_1 := (hF_23 (p0 + 1) (by omega)).trans k_1
  replace k_2 := (hF_23 (p0 + 2) (by omega)).trans k_2
  replace k_3 := (hF_23 (p0 + 3) (by omega)).trans k_3
  replace k_4 := (hF_23 (p0 + 4) (by omega)).trans k_4
  replace k_5 := (hF_23 (p0 + 5) (by omega)).trans k_5
  replace k_6 := (hF_23 (p0 + 6) (by omega)).trans k_6
  replace k_7 := (hF_23 (p0 + 7) (by omega)).trans k_7
  replace k_8 := (hF_23 (p0 + 8) (by omega)).trans k_8
  replace k_9 := (hF_23 (p0 + 9) (by omega)).trans k_9
  replace k_10 := (hF_23 (p0 + 10) (by omega)).trans k_10
  replace k_11 := (hF_23 (p0 + 11) (by omega)).trans k_11
  replace hE : ∀ q : Nat, q < p0 → Ω_23 q = Ω q := fun q h => (hF_23 q (by omega)).trans (hE q h)
  clear hF_23
  refine o_putF hx hb hts hown hK hW hS hA k_0 rfl ig0 tyX0 tyX0_ok nmX0 14 (by decide) fl_X0_45 rfl hin rfl (ty := .array .int) (by decide +kernel) rfl rfl (Nat.le_of_ble_eq_true rfl) dX0_init_94 ?_
  clear hW hS
  intro Ω_24 H locs k_0 hF_24 hW hz1 hS
  replace hz := hz1.trans hz
  clear hz1
  replace k_0 : Ω_24 p0 = some (.inr (0, [.int 0, .int 0, .int 0, .ref (p0 + 1), .ref (p0 + 2), .ref (p0 + 3), .ref (p0 + 4), .ref (p0 + 5), .ref (p0 + 6), .ref (p0 + 7), .ref (p0 + 8), .ref (p0 + 9), .ref (p0 + 10), .ref (p0 + 11), .ref (p0 + 12)])) := k_0
  replace k_1 := (hF_24 (p0 + 1) (by omega)).trans k_1
  replace k_2 := (hF_24 (p0 + 2) (by omega)).trans k_2
  replace k_3 := (hF_24 (p0 + 3) (by omega)).trans k_3
  replace k_4 := (hF_24 (p0 + 4) (by omega)).trans k_4
  replace k_5 := (hF_24 (p0 + 5) (by omega)).trans k_5
  replace k_6 := (hF_24 (p0 + 6) (by omega)).trans k_6
  replace k_7 := (hF_24 (p0 + 7) (by omega)).trans k_7
  replace k_8 := (hF_24 (p0 + 8) (by omega)).trans k_8
  replace k_9 := (hF_24 (p0 + 9) (by omega)).trans k_9
  replace k_10 := (hF_24 (p0 + 10) (by omega)).trans k_10
  replace k_11 := (hF_24 (p0 + 11) (by omega)).trans k_11
  replace k_12 := (hF_24 (p0 + 12) (by omega)).trans k_12
  replace hE : ∀ q : Nat, q < p0 → Ω_24 q = Ω q := fun q h => (hF_24 q (by omega)).trans (hE q h)
  clear hF_24
  exact W.vret hx hb hr (fun t ht hW9 => ⟨⟨Ω_24, rfl, ⟨⟨k_0, k_1, k_2, k_3, k_4, k_5, k_6, k_7, k_8, k_9, k_10, k_11, k_12⟩, hE⟩, by rw [oBz, ht]; exact ⟨hW, hz⟩⟩, hS.F ht⟩) hS.2.2 dX0_init_97

set_option maxHeartbeats 4000000 in
set_option maxRecDepth 100000 in
theorem c_X5_init (l : Launch) (G : Gm) (A : Nat → Prop) (Ω : Om) (p0 : Nat) (hA0 : ∀ q, p0 ≤ q → A q) (k_0 : Ω p0 = some (.inr (5, [.null, .null, .null, .int 0, .int 0]))) : Met l yX5_init (wz yX5_init cX5_init 1 none) ({ frames := 2, cells := 14, slots := 132, locals := 32 } : Room) (va_Pc [.ref p0] (oP G A Ω (p0 + 1))) (va_Qv (fun Ω1 : Om => inSit G Ω1 p0 s0 ∧ ∀ q : Nat, q < p0 → Ω1 q = Ω q) (oBz G A (p0 + 15)) A) 14 132 A := by
  refine Met.ofW (cc := cX5_init) (maxL := 1) (ret := none) (by decide) rfl ?_
  intro p e s m args below meth c s₁ B hml hv
  obtain ⟨rfl, ⟨hW, hK, hN, hZ⟩, hO, hz⟩ := hv
  have hx := B.exec
  have hb := B.bytes
  have hr := B.returns
  have hin : meth.name = "<init>" := (name_of_methodNamed B.named B.method).1
  have hts : ∀ w ∈ gt, w.before _ s = true := fun w hw => atoms_spec (ws := wz yX5_init cX5_init 1 none) B.pre w (List.mem_cons_of_mem _ hw)
  have hown : s.vm.findClass RX5 = some m.cls := findClass_of_methodNamed B.named
  have hlocks := B.notSynchronized
  have hA : ∀ q, A q → A q := fun _ h => h
  have hS : va_S A s.heap s.heap [] := va_S.rf
  have hl := lv_entry ([.ref p0]) (n := 1) (Nat.le_of_ble_eq_true rfl)
  rw [lg_entry_eq]
  generalize (lg_sl ([.ref p0]) ++ List.replicate (1 - (lg_sl ([.ref p0])).length) Slot.unset).toArray = ls at hl ⊢
  have hl : lv_has ls 1 [(0, .ref p0)] := hl
  have hE : ∀ q : Nat, q < p0 → Ω q = Ω q := fun _ _ => rfl
  refine lv_aload_n hx hb dX5_init_0 rfl (lv_at hl 0 rfl) ?_
  refine o_oI hx hb hown hts mo_X5 (hl.1.trans hml.symm) dX5_init_1 (Nat.le_of_ble_eq_true rfl) (Nat.le_of_ble_eq_true rfl) ?_
  refine lv_aload_n hx hb dX5_init_4 rfl (lv_at hl 0 rfl) ?_
  refine o_new (h := (p0 + 1)) (ci := 1) (fs := [.null, .null, .null, .null]) hx hb hts ig1 tyX1 tyX1_ok hown cl_X5_9 ia_X1 ini_X1 hK hW hS (hA0 _ (by omega)) rfl (by decide) (Nat.le_of_ble_eq_true rfl) (Nat.le_of_ble_eq_true rfl) dX5_init_5 hz ?_
  clear hW hS hz
  intro Ω_1 H k_1 hF_1 hW hz hS
  replace hz : H.size = p0 + 2 := hz
  replace k_0 := (hF_1 p0 (by omega)).trans k_0
  replace hE : ∀ q : Nat, q < p0 → Ω_1 q = Ω q := fun q h => (hF_1 q (by omega)).trans (hE q h)
  clear hF_1
  refine lv_dup hx hb dX5_init_8 rfl ?_
  refine o_IN (h := p0 + 2) (rest := [.ref (p0 + 1), .ref p0]) (As := []) (n := 0) hx hb hml hown hts hK hN hZ hO hW hS hA hz (c_X1_init l G A Ω_1 (p0 + 1) (fun q h => hA0 q (by omega)) k_1) (by decide) im_X1_init ini_X1 co_X1_init rfl rfl rfl (by decide +kernel) ⟨Nat.le_of_ble_eq_true rfl, Nat.le_of_ble_eq_true rfl⟩ ⟨Nat.le_of_ble_eq_true rfl, Nat.le_of_ble_eq_true rfl⟩ hl.1 (Nat.le_of_ble_eq_true rfl) rfl rfl dX5_init_9 ?_
  clear hW hS hz
  intro Ω_2 H locs hp hW hz hS
  replace hz : H.size = p0 + 6 := hz
  obtain ⟨g_1, hF_2⟩ := hp
  clear k_1
  replace g_1 : inDev G Ω_2 (p0 + 1) (fun _ => 0) (fun _ => 0) (fun _ => 0) (fun _ => 0) := g_1
  replace k_0 := (hF_2 p0 (by omega)).trans k_0
  replace hE : ∀ q : Nat, q < p0 → Ω_2 q = Ω q := fun q h => (hF_2 q (by omega)).trans (hE q h)
  clear hF_2
  refine o_putF hx hb hts hown hK hW hS hA k_0 rfl ig5 tyX5 tyX5_ok nmX5 0 (by decide) fl_X5_12 rfl hin rfl (ty := .object "MirrorBytes$Device") (by decide +kernel) rfl rfl (Nat.le_of_ble_eq_true rfl) dX5_init_12 ?_
  clear hW hS
  intro Ω_3 H locs k_0 hF_3 hW hz1 hS
  replace hz := hz1.trans hz
  clear hz1
  replace k_0 : Ω_3 p0 = some (.inr (5, [.ref (p0 + 1), .null, .null, .int 0, .int 0])) := k_0
  replace g_1 := g_1.keep (fun q h1 h2 => hF_3 q (by omega))
  replace hE : ∀ q : Nat, q < p0 → Ω_3 q = Ω q := fun q h => (hF_3 q (by omega)).trans (hE q h)
  clear hF_3
  refine lv_aload_n hx hb dX5_init_15 rfl (lv_at hl 0 rfl) ?_
  refine o_new (h := (p0 + 6)) (ci := 1) (fs := [.null, .null, .null, .null]) hx hb hts ig1 tyX1 tyX1_ok hown cl_X5_9 ia_X1 ini_X1 hK hW hS (hA0 _ (by omega)) rfl (by decide) (Nat.le_of_ble_eq_true rfl) (Nat.le_of_ble_eq_true rfl) dX5_init_16 hz ?_
  clear hW hS hz
  intro Ω_4 H k_6 hF_4 hW hz hS
  replace hz : H.size = p0 + 7 := hz
  replace k_0 := (hF_4 p0 (by omega)).trans k_0
  replace g_1 := g_1.keep (fun q h1 h2 => hF_4 q (by omega))
  replace hE : ∀ q : Nat, q < p0 → Ω_4 q = Ω q := fun q h => (hF_4 q (by omega)).trans (hE q h)
  clear hF_4
  refine lv_dup hx hb dX5_init_19 rfl ?_
  refine o_IN (h := p0 + 7) (rest := [.ref (p0 + 6), .ref p0]) (As := []) (n := 0) hx hb hml hown hts hK hN hZ hO hW hS hA hz (c_X1_init l G A Ω_4 (p0 + 6) (fun q h => hA0 q (by omega)) k_6) (by decide) im_X1_init ini_X1 co_X1_init rfl rfl rfl (by decide +kernel) ⟨Nat.le_of_ble_eq_true rfl, Nat.le_of_ble_eq_true rfl⟩ ⟨Nat.le_of_ble_eq_true rfl, Nat.le_of_ble_eq_true rfl⟩ hl.1 (Nat.le_of_ble_eq_true rfl) rfl rfl dX5_init_20 ?_
  clear hW hS hz
  intro Ω_5 H locs hp hW hz hS
  replace hz : H.size = p0 + 11 := hz
  obtain ⟨g_6, hF_5⟩ := hp
  clear k_6
  replace g_6 : inDev G Ω_5 (p0 + 6) (fun _ => 0) (fun _ => 0) (fun _ => 0) (fun _ => 0) := g_6
  replace k_0 := (hF_5 p0 (by omega)).trans k_0
  replace g_1 := g_1.keep (fun q h1 h2 => hF_5 q (by omega))
  replace hE : ∀ q : Nat, q < p0 → Ω_5 q = Ω q := fun q h => (hF_5 q (by omega)).trans (hE q h)
  clear hF_5
  refine o_putF hx hb hts hown hK hW hS hA k_0 rfl ig5 tyX5 tyX5_ok nmX5 1 (by decide) fl_X5_18 rfl hin rfl (ty := .object "MirrorBytes$Device") (by decide +kernel) rfl rfl (Nat.le_of_ble_eq_true rfl) dX5_init_23 ?_
  clear hW hS
  intro Ω_6 H locs k_0 hF_6 hW hz1 hS
  replace hz := hz1.trans hz
  clear hz1
  replace k_0 : Ω_6 p0 = some (.inr (5, [.ref (p0 + 1), .ref (p0 + 6), .null, .int 0, .int 0])) := k_0
  replace g_1 := g_1.keep (fun q h1 h2 => hF_6 q (by omega))
  replace g_6 := g_6.keep (fun q h1 h2 => hF_6 q (by omega))
  replace hE : ∀ q : Nat, q < p0 → Ω_6 q = Ω q := fun q h => (hF_6 q (by omega)).trans (hE q h)
  clear hF_6
  refine lv_aload_n hx hb dX5_init_26 rfl (lv_at hl 0 rfl) ?_
  refine o_new (h := (p0 + 11)) (ci := 3) (fs := [.int 0, .null, .null, .null]) hx hb hts ig3 tyX3 tyX3_ok hown cl_X5_21 ia_X3 ini_X3 hK hW hS (hA0 _ (by omega)) rfl (by decide) (Nat.le_of_ble_eq_true rfl) (Nat.le_of_ble_eq_true rfl) dX5_init_27 hz ?_
  clear hW hS hz
  intro Ω_7 H k_11 hF_7 hW hz hS
  replace hz : H.size = p0 + 12 := hz
  replace k_0 := (hF_7 p0 (by omega)).trans k_0
  replace g_1 := g_1.keep (fun q h1 h2 => hF_7 q (by omega))
  replace g_6 := g_6.keep (fun q h1 h2 => hF_7 q (by omega))
  replace hE : ∀ q : Nat, q < p0 → Ω_7 q = Ω q := fun q h => (hF_7 q (by omega)).trans (hE q h)
  clear hF_7
  refine lv_dup hx hb dX5_init_30 rfl ?_
  refine o_IN (h := p0 + 12) (rest := [.ref (p0 + 11), .ref p0]) (As := []) (n := 0) hx hb hml hown hts hK hN hZ hO hW hS hA hz (c_X3_init l G A Ω_7 (p0 + 11) (fun q h => hA0 q (by omega)) k_11) (by decide) im_X3_init ini_X3 co_X3_init rfl rfl rfl (by decide +kernel) ⟨Nat.le_of_ble_eq_true rfl, Nat.le_of_ble_eq_true rfl⟩ ⟨Nat.le_of_ble_eq_true rfl, Nat.le_of_ble_eq_true rfl⟩ hl.1 (Nat.le_of_ble_eq_true rfl) rfl rfl dX5_init_31 ?_
  clear hW hS hz
  intro Ω_8 H locs hp hW hz hS
  replace hz : H.size = p0 + 15 := hz
  obtain ⟨g_11, hF_8⟩ := hp
  clear k_11
  replace g_11 : inJou G Ω_8 (p0 + 11) (0 : Int32) (fun _ => 0) (fun _ => 0) (fun _ => 0) := g_11
  replace k_0 := (hF_8 p0 (by omega)).trans k_0
  replace g_1 := g_1.keep (fun q h1 h2 => hF_8 q (by omega))
  replace g_6 := g_6.keep (fun q h1 h2 => hF_8 q (by omega))
  replace hE : ∀ q : Nat, q < p0 → Ω_8 q = Ω q := fun q h => (hF_8 q (by omega)).trans (hE q h)
  clear hF_8
  refine o_putF hx hb hts hown hK hW hS hA k_0 rfl ig5 tyX5 tyX5_ok nmX5 2 (by decide) fl_X5_24 rfl hin rfl (ty := .object "MirrorBytes$Journal") (by decide +kernel) rfl rfl (Nat.le_of_ble_eq_true rfl) dX5_init_34 ?_
  clear hW hS
  intro Ω_9 H locs k_0 hF_9 hW hz1 hS
  replace hz := hz1.trans hz
  clear hz1
  replace k_0 : Ω_9 p0 = some (.inr (5, [.ref (p0 + 1), .ref (p0 + 6), .ref (p0 + 11), .int 0, .int 0])) := k_0
  replace g_1 := g_1.keep (fun q h1 h2 => hF_9 q (by omega))
  replace g_6 := g_6.keep (fun q h1 h2 => hF_9 q (by omega))
  replace g_11 := g_11.keep (fun q h1 h2 => hF_9 q (by omega))
  replace hE : ∀ q : Nat, q < p0 → Ω_9 q = Ω q := fun q h => (hF_9 q (by omega)).trans (hE q h)
  clear hF_9
  refine lv_aload_n hx hb dX5_init_37 rfl (lv_at hl 0 rfl) ?_
  refine lv_bipush (v := (-9 : Int32)) hx hb dX5_init_38 (by decide) ?_
  refine o_putZ hx hb hts hown hK hW hS hA k_0 rfl ig5 tyX5 tyX5_ok nmX5 4 (by decide) fl_X5_28 rfl (ty := .int) (by decide +kernel) rfl rfl (Nat.le_of_ble_eq_true rfl) dX5_init_40 ?_
  clear hW hS
  intro Ω_10 H locs k_0 hF_10 hW hz1 hS
  replace hz := hz1.trans hz
  clear hz1
  replace k_0 : Ω_10 p0 = some (.inr (5, [.ref (p0 + 1), .ref (p0 + 6), .ref (p0 + 11), .int 0, .int (-9 : Int32)])) := k_0
  replace g_1 := g_1.keep (fun q h1 h2 => hF_10 q (by omega))
  replace g_6 := g_6.keep (fun q h1 h2 => hF_10 q (by omega))
  replace g_11 := g_11.keep (fun q h1 h2 => hF_10 q (by omega))
  replace hE : ∀ q : Nat, q < p0 → Ω_10 q = Ω q := fun q h => (hF_10 q (by omega)).trans (hE q h)
  clear hF_10
  exact W.vret hx hb hr (fun t ht hW9 => ⟨⟨Ω_10, rfl, ⟨⟨k_0, g_1, g_6, g_11⟩, hE⟩, by rw [oBz, ht]; exact ⟨hW, hz⟩⟩, hS.F ht⟩) hS.2.2 dX5_init_43

set_option maxHeartbeats 4000000 in
set_option maxRecDepth 100000 in
theorem c_X7_init (l : Launch) (G : Gm) (A : Nat → Prop) (Ω : Om) (p0 p1 : Nat) (hA0 : ∀ q, p0 ≤ q → A q) (k_0 : Ω p0 = some (.inr (7, [.null, .int 0, .int 0, .int 0]))) : Met l yX7_init (wz yX7_init cX7_init 2 none) ({ frames := 1, cells := 0, slots := 0, locals := 12 } : Room) (va_Pc [.ref p0, .ref p1] (oP G A Ω (p0 + 1))) (va_Qv (fun Ω1 : Om => inTok G Ω1 p0 p1 (0 : Int32) (0 : Int32) (0 : Int32) ∧ ∀ q : Nat, q < p0 → Ω1 q = Ω q) (oBz G A (p0 + 1)) A) 0 0 A := by
  refine Met.ofW (cc := cX7_init) (maxL := 2) (ret := none) (by decide) rfl ?_
  intro p e s m args below meth c s₁ B hml hv
  obtain ⟨rfl, ⟨hW, hK, hN, hZ⟩, hO, hz⟩ := hv
  have hx := B.exec
  have hb := B.bytes
  have hr := B.returns
  have hin : meth.name = "<init>" := (name_of_methodNamed B.named B.method).1
  have hts : ∀ w ∈ gt, w.before _ s = true := fun w hw => atoms_spec (ws := wz yX7_init cX7_init 2 none) B.pre w (List.mem_cons_of_mem _ hw)
  have hown : s.vm.findClass RX7 = some m.cls := findClass_of_methodNamed B.named
  have hlocks := B.notSynchronized
  have hA : ∀ q, A q → A q := fun _ h => h
  have hS : va_S A s.heap s.heap [] := va_S.rf
  have hl := lv_entry ([.ref p0, .ref p1]) (n := 2) (Nat.le_of_ble_eq_true rfl)
  rw [lg_entry_eq]
  generalize (lg_sl ([.ref p0, .ref p1]) ++ List.replicate (2 - (lg_sl ([.ref p0, .ref p1])).length) Slot.unset).toArray = ls at hl ⊢
  have hl : lv_has ls 2 [(0, .ref p0), (1, .ref p1)] := hl
  have hE : ∀ q : Nat, q < p0 → Ω q = Ω q := fun _ _ => rfl
  refine lv_aload_n hx hb dX7_init_0 rfl (lv_at hl 0 rfl) ?_
  refine o_oI hx hb hown hts mo_X7 (hl.1.trans hml.symm) dX7_init_1 (Nat.le_of_ble_eq_true rfl) (Nat.le_of_ble_eq_true rfl) ?_
  refine lv_aload_n hx hb dX7_init_4 rfl (lv_at hl 0 rfl) ?_
  refine lv_aload_n hx hb dX7_init_5 rfl (lv_at hl 1 rfl) ?_
  refine o_putF hx hb hts hown hK hW hS hA k_0 rfl ig7 tyX7 tyX7_ok nmX7 0 (by decide) fl_X7_9 rfl hin rfl (ty := .object "MirrorBytes$Text") (by decide +kernel) rfl rfl (Nat.le_of_ble_eq_true rfl) dX7_init_6 ?_
  clear hW hS
  intro Ω_1 H locs k_0 hF_1 hW hz1 hS
  replace hz := hz1.trans hz
  clear hz1
  replace k_0 : Ω_1 p0 = some (.inr (7, [.ref p1, .int 0, .int 0, .int 0])) := k_0
  replace hE : ∀ q : Nat, q < p0 → Ω_1 q = Ω q := fun q h => (hF_1 q (by omega)).trans (hE q h)
  clear hF_1
  exact W.vret hx hb hr (fun t ht hW9 => ⟨⟨Ω_1, rfl, ⟨k_0, hE⟩, by rw [oBz, ht]; exact ⟨hW, hz⟩⟩, hS.F ht⟩) hS.2.2 dX7_init_9

set_option maxHeartbeats 4000000 in
set_option maxRecDepth 100000 in
theorem c_X4_init (l : Launch) (G : Gm) (A : Nat → Prop) (Ω : Om) (p0 p1 : Nat) (hA0 : ∀ q, p0 ≤ q → A q) (k_0 : Ω p0 = some (.inr (4, [.null, .null]))) : Met l yX4_init (wz yX4_init cX4_init 2 none) ({ frames := 2, cells := 14, slots := 121, locals := 33 } : Room) (va_Pc [.ref p0, .ref p1] (oP G A Ω (p0 + 1))) (va_Qv (fun Ω1 : Om => inParI G Ω1 p0 p1 ∧ ∀ q : Nat, q < p0 → Ω1 q = Ω q) (oBz G A (p0 + 15)) A) 14 121 A := by
  refine Met.ofW (cc := cX4_init) (maxL := 2) (ret := none) (by decide) rfl ?_
  intro p e s m args below meth c s₁ B hml hv
  obtain ⟨rfl, ⟨hW, hK, hN, hZ⟩, hO, hz⟩ := hv
  have hx := B.exec
  have hb := B.bytes
  have hr := B.returns
  have hin : meth.name = "<init>" := (name_of_methodNamed B.named B.method).1
  have hts : ∀ w ∈ gt, w.before _ s = true := fun w hw => atoms_spec (ws := wz yX4_init cX4_init 2 none) B.pre w (List.mem_cons_of_mem _ hw)
  have hown : s.vm.findClass RX4 = some m.cls := findClass_of_methodNamed B.named
  have hlocks := B.notSynchronized
  have hA : ∀ q, A q → A q := fun _ h => h
  have hS : va_S A s.heap s.heap [] := va_S.rf
  have hl := lv_entry ([.ref p0, .ref p1]) (n := 2) (Nat.le_of_ble_eq_true rfl)
  rw [lg_entry_eq]
  generalize (lg_sl ([.ref p0, .ref p1]) ++ List.replicate (2 - (lg_sl ([.ref p0, .ref p1])).length) Slot.unset).toArray = ls at hl ⊢
  have hl : lv_has ls 2 [(0, .ref p0), (1, .ref p1)] := hl
  have hE : ∀ q : Nat, q < p0 → Ω q = Ω q := fun _ _ => rfl
  refine lv_aload_n hx hb dX4_init_0 rfl (lv_at hl 0 rfl) ?_
  refine o_oI hx hb hown hts mo_X4 (hl.1.trans hml.symm) dX4_init_1 (Nat.le_of_ble_eq_true rfl) (Nat.le_of_ble_eq_true rfl) ?_
  refine lv_aload_n hx hb dX4_init_4 rfl (lv_at hl 0 rfl) ?_
  refine o_new (h := (p0 + 1)) (ci := 0) (fs := [.int 0, .int 0, .int 0, .null, .null, .null, .null, .null, .null, .null, .null, .null, .null, .null, .null]) hx hb hts ig0 tyX0 tyX0_ok hown cl_X4_9 ia_X0 ini_X0 hK hW hS (hA0 _ (by omega)) rfl (by decide) (Nat.le_of_ble_eq_true rfl) (Nat.le_of_ble_eq_true rfl) dX4_init_5 hz ?_
  clear hW hS hz
  intro Ω_1 H k_1 hF_1 hW hz hS
  replace hz : H.size = p0 + 2 := hz
  replace k_0 := (hF_1 p0 (by omega)).trans k_0
  replace hE : ∀ q : Nat, q < p0 → Ω_1 q = Ω q := fun q h => (hF_1 q (by omega)).trans (hE q h)
  clear hF_1
  refine lv_dup hx hb dX4_init_8 rfl ?_
  refine o_IN (h := p0 + 2) (rest := [.ref (p0 + 1), .ref p0]) (As := []) (n := 0) hx hb hml hown hts hK hN hZ hO hW hS hA hz (c_X0_init l G A Ω_1 (p0 + 1) (fun q h => hA0 q (by omega)) k_1) (by decide) im_X0_init ini_X0 co_X0_init rfl rfl rfl (by decide +kernel) ⟨Nat.le_of_ble_eq_true rfl, Nat.le_of_ble_eq_true rfl⟩ ⟨Nat.le_of_ble_eq_true rfl, Nat.le_of_ble_eq_true rfl⟩ hl.1 (Nat.le_of_ble_eq_true rfl) rfl rfl dX4_init_9 ?_
  clear hW hS hz
  intro Ω_2 H locs hp hW hz hS
  replace hz : H.size = p0 + 14 := hz
  obtain ⟨g_1, hF_2⟩ := hp
  clear k_1
  replace g_1 : inBlk G Ω_2 (p0 + 1) (fun _ _ => 0) := g_1
  replace k_0 := (hF_2 p0 (by omega)).trans k_0
  replace hE : ∀ q : Nat, q < p0 → Ω_2 q = Ω q := fun q h => (hF_2 q (by omega)).trans (hE q h)
  clear hF_2
  refine o_putZ hx hb hts hown hK hW hS hA k_0 rfl ig4 tyX4 tyX4_ok nmX4 1 (by decide) fl_X4_12 rfl (ty := .object "MirrorBytes$Block") (by decide +kernel) rfl rfl (Nat.le_of_ble_eq_true rfl) dX4_init_12 ?_
  clear hW hS
  intro Ω_3 H locs k_0 hF_3 hW hz1 hS
  replace hz := hz1.trans hz
  clear hz1
  replace k_0 : Ω_3 p0 = some (.inr (4, [.null, .ref (p0 + 1)])) := k_0
  replace g_1 := g_1.keep (fun q h1 h2 => hF_3 q (by omega))
  replace hE : ∀ q : Nat, q < p0 → Ω_3 q = Ω q := fun q h => (hF_3 q (by omega)).trans (hE q h)
  clear hF_3
  refine lv_aload_n hx hb dX4_init_15 rfl (lv_at hl 0 rfl) ?_
  refine o_new (h := (p0 + 14)) (ci := 7) (fs := [.null, .int 0, .int 0, .int 0]) hx hb hts ig7 tyX7 tyX7_ok hown cl_X4_18 ia_X7 ini_X7 hK hW hS (hA0 _ (by omega)) rfl (by decide) (Nat.le_of_ble_eq_true rfl) (Nat.le_of_ble_eq_true rfl) dX4_init_16 hz ?_
  clear hW hS hz
  intro Ω_4 H k_14 hF_4 hW hz hS
  replace hz : H.size = p0 + 15 := hz
  replace k_0 := (hF_4 p0 (by omega)).trans k_0
  replace g_1 := g_1.keep (fun q h1 h2 => hF_4 q (by omega))
  replace hE : ∀ q : Nat, q < p0 → Ω_4 q = Ω q := fun q h => (hF_4 q (by omega)).trans (hE q h)
  clear hF_4
  refine lv_dup hx hb dX4_init_19 rfl ?_
  refine lv_aload_n hx hb dX4_init_20 rfl (lv_at hl 1 rfl) ?_
  refine o_I (h := p0 + 15) (rest := [.ref (p0 + 14), .ref p0]) (As := [.ref p1]) (n := 1) hx hb hml hown hts hK hN hZ hO hW hS hA hz (c_X7_init l G A Ω_4 (p0 + 14) p1 (fun q h => hA0 q (by omega)) k_14) ml_X4_20 im_X7_init ini_X7 co_X7_init rfl rfl rfl (by decide +kernel) ⟨Nat.le_of_ble_eq_true rfl, Nat.le_of_ble_eq_true rfl⟩ ⟨Nat.le_of_ble_eq_true rfl, Nat.le_of_ble_eq_true rfl⟩ hl.1 (Nat.le_of_ble_eq_true rfl) rfl rfl dX4_init_21 ?_
  clear hW hS hz
  intro Ω_5 H locs hp hW hz hS
  replace hz : H.size = p0 + 15 := hz
  obtain ⟨g_14, hF_5⟩ := hp
  clear k_14
  replace g_14 : inTok G Ω_5 (p0 + 14) p1 (0 : Int32) (0 : Int32) (0 : Int32) := g_14
  replace k_0 := (hF_5 p0 (by omega)).trans k_0
  replace g_1 := g_1.keep (fun q h1 h2 => hF_5 q (by omega))
  replace hE : ∀ q : Nat, q < p0 → Ω_5 q = Ω q := fun q h => (hF_5 q (by omega)).trans (hE q h)
  clear hF_5
  refine o_putF hx hb hts hown hK hW hS hA k_0 rfl ig4 tyX4 tyX4_ok nmX4 0 (by decide) fl_X4_23 rfl hin rfl (ty := .object "MirrorBytes$Tokens") (by decide +kernel) rfl rfl (Nat.le_of_ble_eq_true rfl) dX4_init_24 ?_
  clear hW hS
  intro Ω_6 H locs k_0 hF_6 hW hz1 hS
  replace hz := hz1.trans hz
  clear hz1
  replace k_0 : Ω_6 p0 = some (.inr (4, [.ref (p0 + 14), .ref (p0 + 1)])) := k_0
  replace g_1 := g_1.keep (fun q h1 h2 => hF_6 q (by omega))
  replace g_14 := g_14.keep (fun q h1 h2 => hF_6 q (by omega))
  replace hE : ∀ q : Nat, q < p0 → Ω_6 q = Ω q := fun q h => (hF_6 q (by omega)).trans (hE q h)
  clear hF_6
  exact W.vret hx hb hr (fun t ht hW9 => ⟨⟨Ω_6, rfl, ⟨⟨k_0, g_1, g_14⟩, hE⟩, by rw [oBz, ht]; exact ⟨hW, hz⟩⟩, hS.F ht⟩) hS.2.2 dX4_init_27
