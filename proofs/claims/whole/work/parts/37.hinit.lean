theorem dX2_init_0 : decode cX2_init 0 = .ok (.aload_n 0, 1) := by decide +kernel
theorem dX2_init_1 : decode cX2_init 1 = .ok (.invokespecial 3, 3) := by decide +kernel
theorem dX2_init_4 : decode cX2_init 4 = .ok (.aload_n 0, 1) := by decide +kernel
theorem dX2_init_5 : decode cX2_init 5 = .ok (.bipush 6, 2) := by decide +kernel
theorem dX2_init_7 : decode cX2_init 7 = .ok (.anewarray 9, 3) := by decide +kernel
theorem dX2_init_10 : decode cX2_init 10 = .ok (.putfield 11, 3) := by decide +kernel
theorem dX2_init_13 : decode cX2_init 13 = .ok (.iconst 0, 1) := by decide +kernel
theorem dX2_init_14 : decode cX2_init 14 = .ok (.istore_n 1, 1) := by decide +kernel
theorem dX2_init_15 : decode cX2_init 15 = .ok (.iload_n 1, 1) := by decide +kernel
theorem dX2_init_16 : decode cX2_init 16 = .ok (.bipush 6, 2) := by decide +kernel
theorem dX2_init_18 : decode cX2_init 18 = .ok (.if_icmp .ge 22, 3) := by decide +kernel
theorem dX2_init_21 : decode cX2_init 21 = .ok (.aload_n 0, 1) := by decide +kernel
theorem dX2_init_22 : decode cX2_init 22 = .ok (.getfield 11, 3) := by decide +kernel
theorem dX2_init_25 : decode cX2_init 25 = .ok (.iload_n 1, 1) := by decide +kernel
theorem dX2_init_26 : decode cX2_init 26 = .ok (.new 9, 3) := by decide +kernel
theorem dX2_init_29 : decode cX2_init 29 = .ok (.dup, 1) := by decide +kernel
theorem dX2_init_30 : decode cX2_init 30 = .ok (.invokespecial 17, 3) := by decide +kernel
theorem dX2_init_33 : decode cX2_init 33 = .ok (.aastore, 1) := by decide +kernel
theorem dX2_init_34 : decode cX2_init 34 = .ok (.iinc 1 1, 3) := by decide +kernel
theorem dX2_init_37 : decode cX2_init 37 = .ok (.goto (-22), 3) := by decide +kernel
theorem dX2_init_40 : decode cX2_init 40 = .ok (.return_, 1) := by decide +kernel
set_option maxHeartbeats 4000000 in
set_option maxRecDepth 100000 in
theorem c_X2_init (l : Launch) (G : Gm) (A : Nat → Prop) (Ω : Om) (p0 : Nat) (hA0 : ∀ q, p0 ≤ q → A q) (k_0 : Ω p0 = some (.inr (2, [.null, .int 0, .int 0]))) : Met l yX2_init (wz yX2_init cX2_init 2 none) ({ frames := 3, cells := 91, slots := 828, locals := 52 } : Room) (va_Pc [.ref p0] (oP G A Ω (p0 + 1))) (va_Qv (fun Ω1 : Om => inHis G Ω1 p0 (fun _ => s0) (0 : Int32) (0 : Int32) ∧ ∀ q : Nat, q < p0 → Ω1 q = Ω q) (oBz G A (p0 + 92)) A) 91 828 A := by
  refine Met.ofW (cc := cX2_init) (maxL := 2) (ret := none) (by decide) rfl ?_
  intro p e s m args below meth c s₁ B hml hv
  obtain ⟨rfl, ⟨hW, hK, hN, hZ⟩, hO, hz⟩ := hv
  have hx := B.exec
  have hb := B.bytes
  have hr := B.returns
  have hin : meth.name = "<init>" := (name_of_methodNamed B.named B.method).1
  have hts : ∀ w ∈ gt, w.before _ s = true := fun w hw => atoms_spec (ws := wz yX2_init cX2_init 2 none) B.pre w (List.mem_cons_of_mem _ hw)
  have hown : s.vm.findClass RX2 = some m.cls := findClass_of_methodNamed B.named
  have hlocks := B.notSynchronized
  have hA : ∀ q, A q → A q := fun _ h => h
  have hS : va_S A s.heap s.heap [] := va_S.rf
  have hl := lv_entry ([.ref p0]) (n := 2) (Nat.le_of_ble_eq_true rfl)
  rw [lg_entry_eq]
  generalize (lg_sl ([.ref p0]) ++ List.replicate (2 - (lg_sl ([.ref p0])).length) Slot.unset).toArray = ls at hl ⊢
  have hl : lv_has ls 2 [(0, .ref p0)] := hl
  have hE : ∀ q : Nat, q < p0 → Ω q = Ω q := fun _ _ => rfl
  refine lv_aload_n hx hb dX2_init_0 rfl (lv_at hl 0 rfl) ?_
  refine o_oI hx hb hown hts mo_X2 (hl.1.trans hml.symm) dX2_init_1 (Nat.le_of_ble_eq_true rfl) (Nat.le_of_ble_eq_true rfl) ?_
  refine lv_aload_n hx hb dX2_init_4 rfl (lv_at hl 0 rfl) ?_
  refine lv_bipush (v := (6 : Int32)) hx hb dX2_init_5 (by decide) ?_
  refine o_newS (N := 6) (h := (p0 + 1)) hx hb hts hown cl_X2_9 hO hK hW hS (hA0 _ (by omega)) (by decide) (by decide) (by decide) (Nat.le_of_ble_eq_true rfl) (Nat.le_of_ble_eq_true rfl) dX2_init_7 hz ?_
  clear hW hS hz
  intro Ω_1 H k_1 hF_1 hW hz hS
  replace hz : H.size = p0 + 2 := hz
  replace k_0 := (hF_1 p0 (by omega)).trans k_0
  replace hE : ∀ q : Nat, q < p0 → Ω_1 q = Ω q := fun q h => (hF_1 q (by omega)).trans (hE q h)
  clear hF_1
  refine o_putF hx hb hts hown hK hW hS hA k_0 rfl ig2 tyX2 tyX2_ok nmX2 0 (by decide) fl_X2_11 rfl hin rfl (ty := .array (.object "MirrorBytes$Situation")) (by decide +kernel) rfl rfl (Nat.le_of_ble_eq_true rfl) dX2_init_10 ?_
  clear hW hS
  intro Ω_2 H locs k_0 hF_2 hW hz1 hS
  replace hz := hz1.trans hz
  clear hz1
  replace k_0 : Ω_2 p0 = some (.inr (2, [.ref (p0 + 1), .int 0, .int 0])) := k_0
  replace k_1 := (hF_2 (p0 + 1) (by omega)).trans k_1
  replace hE : ∀ q : Nat, q < p0 → Ω_2 q = Ω q := fun q h => (hF_2 q (by omega)).trans (hE q h)
  clear hF_2
  refine lv_iconst (v := (0 : Int32)) hx hb dX2_init_13 (by decide) ?_
  refine lv_istore_n (lv' := [(1, .int (0 : Int32)), (0, .ref p0)]) hx hb dX2_init_14 rfl hl (by decide) rfl (fun ls hl => ?_)
  refine lv_iload_n hx hb dX2_init_15 rfl (lv_at hl 0 rfl) ?_
  refine lv_bipush (v := (6 : Int32)) hx hb dX2_init_16 (by decide) ?_
  refine lv_icmp_ge (tgt := 40) hx hb dX2_init_18 (by decide) (fun c_ => absurd c_ (by decide)) (fun _ => ?_)
  refine lv_aload_n hx hb dX2_init_21 rfl (lv_at hl 1 rfl) ?_
  refine o_get hx hb hts hown hK hW k_0 rfl ig2 0 (by decide) fl_X2_11 rfl dX2_init_22 ?_
  refine lv_iload_n hx hb dX2_init_25 rfl (lv_at hl 0 rfl) ?_
  refine o_new (h := (p0 + 2)) (ci := 5) (fs := [.null, .null, .null, .int 0, .int 0]) hx hb hts ig5 tyX5 tyX5_ok hown cl_X2_9 ia_X5 ini_X5 hK hW hS (hA0 _ (by omega)) rfl (by decide) (Nat.le_of_ble_eq_true rfl) (Nat.le_of_ble_eq_true rfl) dX2_init_26 hz ?_
  clear hW hS hz
  intro Ω_3 H k_2 hF_3 hW hz hS
  replace hz : H.size = p0 + 3 := hz
  replace k_0 := (hF_3 p0 (by omega)).trans k_0
  replace k_1 := (hF_3 (p0 + 1) (by omega)).trans k_1
  replace hE : ∀ q : Nat, q < p0 → Ω_3 q = Ω q := fun q h => (hF_3 q (by omega)).trans (hE q h)
  clear hF_3
  refine lv_dup hx hb dX2_init_29 rfl ?_
  refine o_IN (h := p0 + 3) (rest := [.ref (p0 + 2), .int (0 : Int32), .ref (p0 + 1)]) (As := []) (n := 0) hx hb hml hown hts hK hN hZ hO hW hS hA hz (c_X5_init l G A Ω_3 (p0 + 2) (fun q h => hA0 q (by omega)) k_2) (by decide) im_X5_init ini_X5 co_X5_init rfl rfl rfl (by decide +kernel) ⟨Nat.le_of_ble_eq_true rfl, Nat.le_of_ble_eq_true rfl⟩ ⟨Nat.le_of_ble_eq_true rfl, Nat.le_of_ble_eq_true rfl⟩ hl.1 (Nat.le_of_ble_eq_true rfl) rfl rfl dX2_init_30 ?_
  clear hW hS hz
  intro Ω_4 H locs hp hW hz hS
  replace hz : H.size = p0 + 17 := hz
  obtain ⟨g_2, hF_4⟩ := hp
  clear k_2
  replace g_2 : inSit G Ω_4 (p0 + 2) s0 := g_2
  replace k_0 := (hF_4 p0 (by omega)).trans k_0
  replace k_1 := (hF_4 (p0 + 1) (by omega)).trans k_1
  replace hE : ∀ q : Nat, q < p0 → Ω_4 q = Ω q := fun q h => (hF_4 q (by omega)).trans (hE q h)
  clear hF_4
  refine o_qast (n := 6) hx hb hK hW hS hA k_1 (inSitO_o g_2.1) (vp_in_iff.mpr ⟨by decide, by decide⟩) dX2_init_33 ?_
  clear hW hS
  intro Ω_5 H locs k_1 hF_5 hW hz1 hS
  replace hz := hz1.trans hz
  clear hz1
  replace k_0 := (hF_5 p0 (by omega)).trans k_0
  replace g_2 := g_2.keep (fun q h1 h2 => hF_5 q (by omega))
  replace hE : ∀ q : Nat, q < p0 → Ω_5 q = Ω q := fun q h => (hF_5 q (by omega)).trans (hE q h)
  clear hF_5
  refine lv_iinc (v := (1 : Int32)) (lv' := [(1, .int (1 : Int32)), (0, .ref p0)]) hx hb dX2_init_34 hl (k := 0) rfl (by decide) (by decide) rfl (fun ls hl => ?_)
  refine lv_goto (tgt := 15) hx hb dX2_init_37 (by decide) ?_
  refine lv_iload_n hx hb dX2_init_15 rfl (lv_at hl 0 rfl) ?_
  refine lv_bipush (v := (6 : Int32)) hx hb dX2_init_16 (by decide) ?_
  refine lv_icmp_ge (tgt := 40) hx hb dX2_init_18 (by decide) (fun c_ => absurd c_ (by decide)) (fun _ => ?_)
  refine lv_aload_n hx hb dX2_init_21 rfl (lv_at hl 1 rfl) ?_
  refine o_get hx hb hts hown hK hW k_0 rfl ig2 0 (by decide) fl_X2_11 rfl dX2_init_22 ?_
  refine lv_iload_n hx hb dX2_init_25 rfl (lv_at hl 0 rfl) ?_
  refine o_new (h := (p0 + 17)) (ci := 5) (fs := [.null, .null, .null, .int 0, .int 0]) hx hb hts ig5 tyX5 tyX5_ok hown cl_X2_9 ia_X5 ini_X5 hK hW hS (hA0 _ (by omega)) rfl (by decide) (Nat.le_of_ble_eq_true rfl) (Nat.le_of_ble_eq_true rfl) dX2_init_26 hz ?_
  clear hW hS hz
  intro Ω_6 H k_17 hF_6 hW hz hS
  replace hz : H.size = p0 + 18 := hz
  replace k_0 := (hF_6 p0 (by omega)).trans k_0
  replace k_1 := (hF_6 (p0 + 1) (by omega)).trans k_1
  replace g_2 := g_2.keep (fun q h1 h2 => hF_6 q (by omega))
  replace hE : ∀ q : Nat, q < p0 → Ω_6 q = Ω q := fun q h => (hF_6 q (by omega)).trans (hE q h)
  clear hF_6
  refine lv_dup hx hb dX2_init_29 rfl ?_
  refine o_IN (h := p0 + 18) (rest := [.ref (p0 + 17), .int (1 : Int32), .ref (p0 + 1)]) (As := []) (n := 0) hx hb hml hown hts hK hN hZ hO hW hS hA hz (c_X5_init l G A Ω_6 (p0 + 17) (fun q h => hA0 q (by omega)) k_17) (by decide) im_X5_init ini_X5 co_X5_init rfl rfl rfl (by decide +kernel) ⟨Nat.le_of_ble_eq_true rfl, Nat.le_of_ble_eq_true rfl⟩ ⟨Nat.le_of_ble_eq_true rfl, Nat.le_of_ble_eq_true rfl⟩ hl.1 (Nat.le_of_ble_eq_true rfl) rfl rfl dX2_init_30 ?_
  clear hW hS hz
  intro Ω_7 H locs hp hW hz hS
  replace hz : H.size = p0 + 32 := hz
  obtain ⟨g_17, hF_7⟩ := hp
  clear k_17
  replace g_17 : inSit G Ω_7 (p0 + 17) s0 := g_17
  replace k_0 := (hF_7 p0 (by omega)).trans k_0
  replace k_1 := (hF_7 (p0 + 1) (by omega)).trans k_1
  replace g_2 := g_2.keep (fun q h1 h2 => hF_7 q (by omega))
  replace hE : ∀ q : Nat, q < p0 → Ω_7 q = Ω q := fun q h => (hF_7 q (by omega)).trans (hE q h)
  clear hF_7
  refine o_qast (n := 6) hx hb hK hW hS hA k_1 (inSitO_o g_17.1) (vp_in_iff.mpr ⟨by decide, by decide⟩) dX2_init_33 ?_
  clear hW hS
  intro Ω_8 H locs k_1 hF_8 hW hz1 hS
  replace hz := hz1.trans hz
  clear hz1
  replace k_0 := (hF_8 p0 (by omega)).trans k_0
  replace g_2 := g_2.keep (fun q h1 h2 => hF_8 q (by omega))
  replace g_17 := g_17.keep (fun q h1 h2 => hF_8 q (by omega))
  replace hE : ∀ q : Nat, q < p0 → Ω_8 q = Ω q := fun q h => (hF_8 q (by omega)).trans (hE q h)
  clear hF_8
  refine lv_iinc (v := (2 : Int32)) (lv' := [(1, .int (2 : Int32)), (0, .ref p0)]) hx hb dX2_init_34 hl (k := 0) rfl (by decide) (by decide) rfl (fun ls hl => ?_)
  refine lv_goto (tgt := 15) hx hb dX2_init_37 (by decide) ?_
  refine lv_iload_n hx hb dX2_init_15 rfl (lv_at hl 0 rfl) ?_
  refine lv_bipush (v := (6 : Int32)) hx hb dX2_init_16 (by decide) ?_
  refine lv_icmp_ge (tgt := 40) hx hb dX2_init_18 (by decide) (fun c_ => absurd c_ (by decide)) (fun _ => ?_)
  refine lv_aload_n hx hb dX2_init_21 rfl (lv_at hl 1 rfl) ?_
  refine o_get hx hb hts hown hK hW k_0 rfl ig2 0 (by decide) fl_X2_11 rfl dX2_init_22 ?_
  refine lv_iload_n hx hb dX2_init_25 rfl (lv_at hl 0 rfl) ?_
  refine o_new (h := (p0 + 32)) (ci := 5) (fs := [.null, .null, .null, .int 0, .int 0]) hx hb hts ig5 tyX5 tyX5_ok hown cl_X2_9 ia_X5 ini_X5 hK hW hS (hA0 _ (by omega)) rfl (by decide) (Nat.le_of_ble_eq_true rfl) (Nat.le_of_ble_eq_true rfl) dX2_init_26 hz ?_
  clear hW hS hz
  intro Ω_9 H k_32 hF_9 hW hz hS
  replace hz : H.size = p0 + 33 := hz
  replace k_0 := (hF_9 p0 (by omega)).trans k_0
  replace k_1 := (hF_9 (p0 + 1) (by omega)).trans k_1
  replace g_2 := g_2.keep (fun q h1 h2 => hF_9 q (by omega))
  replace g_17 := g_17.keep (fun q h1 h2 => hF_9 q (by omega))
  replace hE : ∀ q : Nat, q < p0 → Ω_9 q = Ω q := fun q h => (hF_9 q (by omega)).trans (hE q h)
  clear hF_9
  refine lv_dup hx hb dX2_init_29 rfl ?_
  refine o_IN (h := p0 + 33) (rest := [.ref (p0 + 32), .int (2 : Int32), .ref (p0 + 1)]) (As := []) (n := 0) hx hb hml hown hts hK hN hZ hO hW hS hA hz (c_X5_init l G A Ω_9 (p0 + 32) (fun q h => hA0 q (by omega)) k_32) (by decide) im_X5_init ini_X5 co_X5_init rfl rfl rfl (by decide +kernel) ⟨Nat.le_of_ble_eq_true rfl, Nat.le_of_ble_eq_true rfl⟩ ⟨Nat.le_of_ble_eq_true rfl, Nat.le_of_ble_eq_true rfl⟩ hl.1 (Nat.le_of_ble_eq_true rfl) rfl rfl dX2_init_30 ?_
  clear hW hS hz
  intro Ω_10 H locs hp hW hz hS
  replace hz : H.size = p0 + 47 := hz
  obtain ⟨g_32, hF_10⟩ := hp
  clear k_32
  replace g_32 : inSit G Ω_10 (p0 + 32) s0 := g_32
  replace k_0 := (hF_10 p0 (by omega)).trans k_0
  replace k_1 := (hF_10 (p0 + 1) (by omega)).trans k_1
  replace g_2 := g_2.keep (fun q h1 h2 => hF_10 q (by omega))
  replace g_17 := g_17.keep (fun q h1 h2 => hF_10 q (by omega))
  replace hE : ∀ q : Nat, q < p0 → Ω_10 q = Ω q := fun q h => (hF_10 q (by omega)).trans (hE q h)
  clear hF_10
  refine o_qast (n := 6) hx hb hK hW hS hA k_1 (inSitO_o g_32.1) (vp_in_iff.mpr ⟨by decide, by decide⟩) dX2_init_33 ?_
  clear hW hS
  intro Ω_11 H locs k_1 hF_11 hW hz1 hS
  replace hz := hz1.trans hz
  clear hz1
  replace k_0 := (hF_11 p0 (by omega)).trans k_0
  replace g_2 := g_2.keep (fun q h1 h2 => hF_11 q (by omega))
  replace g_17 := g_17.keep (fun q h1 h2 => hF_11 q (by omega))
  replace g_32 := g_32.keep (fun q h1 h2 => hF_11 q (by omega))
  replace hE : ∀ q : Nat, q < p0 → Ω_11 q = Ω q := fun q h => (hF_11 q (by omega)).trans (hE q h)
  clear hF_11
  refine lv_iinc (v := (3 : Int32)) (lv' := [(1, .int (3 : Int32)), (0, .ref p0)]) hx hb dX2_init_34 hl (k := 0) rfl (by decide) (by decide) rfl (fun ls hl => ?_)
  refine lv_goto (tgt := 15) hx hb dX2_init_37 (by decide) ?_
  refine lv_iload_n hx hb dX2_init_15 rfl (lv_at hl 0 rfl) ?_
  refine lv_bipush (v := (6 : Int32)) hx hb dX2_init_16 (by decide) ?_
  refine lv_icmp_ge (tgt := 40) hx hb dX2_init_18 (by decide) (fun c_ => absurd c_ (by decide)) (fun _ => ?_)
  refine lv_aload_n hx hb dX2_init_21 rfl (lv_at hl 1 rfl) ?_
  refine o_get hx hb hts hown hK hW k_0 rfl ig2 0 (by decide) fl_X2_11 rfl dX2_init_22 ?_
  refine lv_iload_n hx hb dX2_init_25 rfl (lv_at hl 0 rfl) ?_
  refine o_new (h := (p0 + 47)) (ci := 5) (fs := [.null, .null, .null, .int 0, .int 0]) hx hb hts ig5 tyX5 tyX5_ok hown cl_X2_9 ia_X5 ini_X5 hK hW hS (hA0 _ (by omega)) rfl (by decide) (Nat.le_of_ble_eq_true rfl) (Nat.le_of_ble_eq_true rfl) dX2_init_26 hz ?_
  clear hW hS hz
  intro Ω_12 H k_47 hF_12 hW hz hS
  replace hz : H.size = p0 + 48 := hz
  replace k_0 := (hF_12 p0 (by omega)).trans k_0
  replace k_1 := (hF_12 (p0 + 1) (by omega)).trans k_1
  replace g_2 := g_2.keep (fun q h1 h2 => hF_12 q (by omega))
  replace g_17 := g_17.keep (fun q h1 h2 => hF_12 q (by omega))
  replace g_32 := g_32.keep (fun q h1 h2 => hF_12 q (by omega))
  replace hE : ∀ q : Nat, q < p0 → Ω_12 q = Ω q := fun q h => (hF_12 q (by omega)).trans (hE q h)
  clear hF_12
  refine lv_dup hx hb dX2_init_29 rfl ?_
  refine o_IN (h := p0 + 48) (rest := [.ref (p0 + 47), .int (3 : Int32), .ref (p0 + 1)]) (As := []) (n := 0) hx hb hml hown hts hK hN hZ hO hW hS hA hz (c_X5_init l G A Ω_12 (p0 + 47) (fun q h => hA0 q (by omega)) k_47) (by decide) im_X5_init ini_X5 co_X5_init rfl rfl rfl (by decide +kernel) ⟨Nat.le_of_ble_eq_true rfl, Nat.le_of_ble_eq_true rfl⟩ ⟨Nat.le_of_ble_eq_true rfl, Nat.le_of_ble_eq_true rfl⟩ hl.1 (Nat.le_of_ble_eq_true rfl) rfl rfl dX2_init_30 ?_
  clear hW hS hz
  intro Ω_13 H locs hp hW hz hS
  replace hz : H.size = p0 + 62 := hz
  obtain ⟨g_47, hF_13⟩ := hp
  clear k_47
  replace g_47 : inSit G Ω_13 (p0 + 47) s0 := g_47
  replace k_0 := (hF_13 p0 (by omega)).trans k_0
  replace k_1 := (hF_13 (p0 + 1) (by omega)).trans k_1
  replace g_2 := g_2.keep (fun q h1 h2 => hF_13 q (by omega))
  replace g_17 := g_17.keep (fun q h1 h2 => hF_13 q (by omega))
  replace g_32 := g_32.keep (fun q h1 h2 => hF_13 q (by omega))
  replace hE : ∀ q : Nat, q < p0 → Ω_13 q = Ω q := fun q h => (hF_13 q (by omega)).trans (hE q h)
  clear hF_13
  refine o_qast (n := 6) hx hb hK hW hS hA k_1 (inSitO_o g_47.1) (vp_in_iff.mpr ⟨by decide, by decide⟩) dX2_init_33 ?_
  clear hW hS
  intro Ω_14 H locs k_1 hF_14 hW hz1 hS
  replace hz := hz1.trans hz
  clear hz1
  replace k_0 := (hF_14 p0 (by omega)).trans k_0
  replace g_2 := g_2.keep (fun q h1 h2 => hF_14 q (by omega))
  replace g_17 := g_17.keep (fun q h1 h2 => hF_14 q (by omega))
  replace g_32 := g_32.keep (fun q h1 h2 => hF_14 q (by omega))
  replace g_47 := g_47.keep (fun q h1 h2 => hF_14 q (by omega))
  replace hE : ∀ q : Nat, q < p0 → Ω_14 q = Ω q := fun q h => (hF_14 q (by omega)).trans (hE q h)
  clear hF_14
  refine lv_iinc (v := (4 : Int32)) (lv' := [(1, .int (4 : Int32)), (0, .ref p0)]) hx hb dX2_init_34 hl (k := 0) rfl (by decide) (by decide) rfl (fun ls hl => ?_)
  refine lv_goto (tgt := 15) hx hb dX2_init_37 (by decide) ?_
  refine lv_iload_n hx hb dX2_init_15 rfl (lv_at hl 0 rfl) ?_
  refine lv_bipush (v := (6 : Int32)) hx hb dX2_init_16 (by decide) ?_
  refine lv_icmp_ge (tgt := 40) hx hb dX2_init_18 (by decide) (fun c_ => absurd c_ (by decide)) (fun _ => ?_)
  refine lv_aload_n hx hb dX2_init_21 rfl (lv_at hl 1 rfl) ?_
  refine o_get hx hb hts hown hK hW k_0 rfl ig2 0 (by decide) fl_X2_11 rfl dX2_init_22 ?_
  refine lv_iload_n hx hb dX2_init_25 rfl (lv_at hl 0 rfl) ?_
  refine o_new (h := (p0 + 62)) (ci := 5) (fs := [.null, .null, .null, .int 0, .int 0]) hx hb hts ig5 tyX5 tyX5_ok hown cl_X2_9 ia_X5 ini_X5 hK hW hS (hA0 _ (by omega)) rfl (by decide) (Nat.le_of_ble_eq_true rfl) (Nat.le_of_ble_eq_true rfl) dX2_init_26 hz ?_
  clear hW hS hz
  intro Ω_15 H k_62 hF_15 hW hz hS
  replace hz : H.size = p0 + 63 := hz
  replace k_0 := (hF_15 p0 (by omega)).trans k_0
  replace k_1 := (hF_15 (p0 + 1) (by omega)).trans k_1
  replace g_2 := g_2.keep (fun q h1 h2 => hF_15 q (by omega))
  replace g_17 := g_17.keep (fun q h1 h2 => hF_15 q (by omega))
  replace g_32 := g_32.keep (fun q h1 h2 => hF_15 q (by omega))
  replace g_47 := g_47.keep (fun q h1 h2 => hF_15 q (by omega))
  replace hE : ∀ q : Nat, q < p0 → Ω_15 q = Ω q := fun q h => (hF_15 q (by omega)).trans (hE q h)
  clear hF_15
  refine lv_dup hx hb dX2_init_29 rfl ?_
  refine o_IN (h := p0 + 63) (rest := [.ref (p0 + 62), .int (4 : Int32), .ref (p0 + 1)]) (As := []) (n := 0) hx hb hml hown hts hK hN hZ hO hW hS hA hz (c_X5_init l G A Ω_15 (p0 + 62) (fun q h => hA0 q (by omega)) k_62) (by decide) im_X5_init ini_X5 co_X5_init rfl rfl rfl (by decide +kernel) ⟨Nat.le_of_ble_eq_true rfl, Nat.le_of_ble_eq_true rfl⟩ ⟨Nat.le_of_ble_eq_true rfl, Nat.le_of_ble_eq_true rfl⟩ hl.1 (Nat.le_of_ble_eq_true rfl) rfl rfl dX2_init_30 ?_
  clear hW hS hz
  intro Ω_16 H locs hp hW hz hS
  replace hz : H.size = p0 + 77 := hz
  obtain ⟨g_62, hF_16⟩ := hp
  clear k_62
  replace g_62 : inSit G Ω_16 (p0 + 62) s0 := g_62
  replace k_0 := (hF_16 p0 (by omega)).trans k_0
  replace k_1 := (hF_16 (p0 + 1) (by omega)).trans k_1
  replace g_2 := g_2.keep (fun q h1 h2 => hF_16 q (by omega))
  replace g_17 := g_17.keep (fun q h1 h2 => hF_16 q (by omega))
  replace g_32 := g_32.keep (fun q h1 h2 => hF_16 q (by omega))
  replace g_47 := g_47.keep (fun q h1 h2 => hF_16 q (by omega))
  replace hE : ∀ q : Nat, q < p0 → Ω_16 q = Ω q := fun q h => (hF_16 q (by omega)).trans (hE q h)
  clear hF_16
  refine o_qast (n := 6) hx hb hK hW hS hA k_1 (inSitO_o g_62.1) (vp_in_iff.mpr ⟨by decide, by decide⟩) dX2_init_33 ?_
  clear hW hS
  intro Ω_17 H locs k_1 hF_17 hW hz1 hS
  replace hz := hz1.trans hz
  clear hz1
  replace k_0 := (hF_17 p0 (by omega)).trans k_0
  replace g_2 := g_2.keep (fun q h1 h2 => hF_17 q (by omega))
  replace g_17 := g_17.keep (fun q h1 h2 => hF_17 q (by omega))
  replace g_32 := g_32.keep (fun q h1 h2 => hF_17 q (by omega))
  replace g_47 := g_47.keep (fun q h1 h2 => hF_17 q (by omega))
  replace g_62 := g_62.keep (fun q h1 h2 => hF_17 q (by omega))
  replace hE : ∀ q : Nat, q < p0 → Ω_17 q = Ω q := fun q h => (hF_17 q (by omega)).trans (hE q h)
  clear hF_17
  refine lv_iinc (v := (5 : Int32)) (lv' := [(1, .int (5 : Int32)), (0, .ref p0)]) hx hb dX2_init_34 hl (k := 0) rfl (by decide) (by decide) rfl (fun ls hl => ?_)
  refine lv_goto (tgt := 15) hx hb dX2_init_37 (by decide) ?_
  refine lv_iload_n hx hb dX2_init_15 rfl (lv_at hl 0 rfl) ?_
  refine lv_bipush (v := (6 : Int32)) hx hb dX2_init_16 (by decide) ?_
  refine lv_icmp_ge (tgt := 40) hx hb dX2_init_18 (by decide) (fun c_ => absurd c_ (by decide)) (fun _ => ?_)
  refine lv_aload_n hx hb dX2_init_21 rfl (lv_at hl 1 rfl) ?_
  refine o_get hx hb hts hown hK hW k_0 rfl ig2 0 (by decide) fl_X2_11 rfl dX2_init_22 ?_
  refine lv_iload_n hx hb dX2_init_25 rfl (lv_at hl 0 rfl) ?_
  refine o_new (h := (p0 + 77)) (ci := 5) (fs := [.null, .null, .null, .int 0, .int 0]) hx hb hts ig5 tyX5 tyX5_ok hown cl_X2_9 ia_X5 ini_X5 hK hW hS (hA0 _ (by omega)) rfl (by decide) (Nat.le_of_ble_eq_true rfl) (Nat.le_of_ble_eq_true rfl) dX2_init_26 hz ?_
  clear hW hS hz
  intro Ω_18 H k_77 hF_18 hW hz hS
  replace hz : H.size = p0 + 78 := hz
  replace k_0 := (hF_18 p0 (by omega)).trans k_0
  replace k_1 := (hF_18 (p0 + 1) (by omega)).trans k_1
  replace g_2 := g_2.keep (fun q h1 h2 => hF_18 q (by omega))
  replace g_17 := g_17.keep (fun q h1 h2 => hF_18 q (by omega))
  replace g_32 := g_32.keep (fun q h1 h2 => hF_18 q (by omega))
  replace g_47 := g_47.keep (fun q h1 h2 => hF_18 q (by omega))
  replace g_62 := g_62.keep (fun q h1 h2 => hF_18 q (by omega))
  replace hE : ∀ q : Nat, q < p0 → Ω_18 q = Ω q := fun q h => (hF_18 q (by omega)).trans (hE q h)
  clear hF_18
  refine lv_dup hx hb dX2_init_29 rfl ?_
  refine o_IN (h := p0 + 78) (rest := [.ref (p0 + 77), .int (5 : Int32), .ref (p0 + 1)]) (As := []) (n := 0) hx hb hml hown hts hK hN hZ hO hW hS hA hz (c_X5_init l G A Ω_18 (p0 + 77) (fun q h => hA0 q (by omega)) k_77) (by decide) im_X5_init ini_X5 co_X5_init rfl rfl rfl (by decide +kernel) ⟨Nat.le_of_ble_eq_true rfl, Nat.le_of_ble_eq_true rfl⟩ ⟨Nat.le_of_ble_eq_true rfl, Nat.le_of_ble_eq_true rfl⟩ hl.1 (Nat.le_of_ble_eq_true rfl) rfl rfl dX2_init_30 ?_
  clear hW hS hz
  intro Ω_19 H locs hp hW hz hS
  replace hz : H.size = p0 + 92 := hz
  obtain ⟨g_77, hF_19⟩ := hp
  clear k_77
  replace g_77 : inSit G Ω_19 (p0 + 77) s0 := g_77
  replace k_0 := (hF_19 p0 (by omega)).trans k_0
  replace k_1 := (hF_19 (p0 + 1) (by omega)).trans k_1
  replace g_2 := g_2.keep (fun q h1 h2 => hF_19 q (by omega))
  replace g_17 := g_17.keep (fun q h1 h2 => hF_19 q (by omega))
  replace g_32 := g_32.keep (fun q h1 h2 => hF_19 q (by omega))
  replace g_47 := g_47.keep (fun q h1 h2 => hF_19 q (by omega))
  replace g_62 := g_62.keep (fun q h1 h2 => hF_19 q (by omega))
  replace hE : ∀ q : Nat, q < p0 → Ω_19 q = Ω q := fun q h => (hF_19 q (by omega)).trans (hE q h)
  clear hF_19
  refine o_qast (n := 6) hx hb hK hW hS hA k_1 (inSitO_o g_77.1) (vp_in_iff.mpr ⟨by decide, by decide⟩) dX2_init_33 ?_
  clear hW hS
  intro Ω_20 H locs k_1 hF_20 hW hz1 hS
  replace hz := hz1.trans hz
  clear hz1
  replace k_0 := (hF_20 p0 (by omega)).trans k_0
  replace g_2 := g_2.keep (fun q h1 h2 => hF_20 q (by omega))
  replace g_17 := g_17.keep (fun q h1 h2 => hF_20 q (by omega))
  replace g_32 := g_32.keep (fun q h1 h2 => hF_20 q (by omega))
  replace g_47 := g_47.keep (fun q h1 h2 => hF_20 q (by omega))
  replace g_62 := g_62.keep (fun q h1 h2 => hF_20 q (by omega))
  replace g_77 := g_77.keep (fun q h1 h2 => hF_20 q (by omega))
  replace hE : ∀ q : Nat, q < p0 → Ω_20 q = Ω q := fun q h => (hF_20 q (by omega)).trans (hE q h)
  clear hF_20
  refine lv_iinc (v := (6 : Int32)) (lv' := [(1, .int (6 : Int32)), (0, .ref p0)]) hx hb dX2_init_34 hl (k := 0) rfl (by decide) (by decide) rfl (fun ls hl => ?_)
  refine lv_goto (tgt := 15) hx hb dX2_init_37 (by decide) ?_
  refine lv_iload_n hx hb dX2_init_15 rfl (lv_at hl 0 rfl) ?_
  refine lv_bipush (v := (6 : Int32)) hx hb dX2_init_16 (by decide) ?_
  refine lv_icmp_ge (tgt := 40) hx hb dX2_init_18 (by decide) (fun _ => ?_) (fun c_ => absurd (by decide) c_)
  obtain ⟨Ω9, k_B, hF_9, hW⟩ := oW.extq (g := fun i => some (p0 + 2 + 15 * i)) hW k_1 (fun i hi => up6 hi)
  replace g_2 := g_2.keep (fun q h1 h2 => hF_9 q (by omega))
  replace g_17 := g_17.keep (fun q h1 h2 => hF_9 q (by omega))
  replace g_32 := g_32.keep (fun q h1 h2 => hF_9 q (by omega))
  replace g_47 := g_47.keep (fun q h1 h2 => hF_9 q (by omega))
  replace g_62 := g_62.keep (fun q h1 h2 => hF_9 q (by omega))
  replace g_77 := g_77.keep (fun q h1 h2 => hF_9 q (by omega))
  have g_A : ∀ i, i < 6 → inSit G Ω9 (p0 + 2 + 15 * i) s0 := by
    intro i hi
    obtain rfl | rfl | rfl | rfl | rfl | rfl : i = 0 ∨ i = 1 ∨ i = 2 ∨ i = 3 ∨ i = 4 ∨ i = 5 := by omega
    · rw [show p0 + 2 + 15 * 0 = p0 + 2 from by omega]; exact g_2
    · rw [show p0 + 2 + 15 * 1 = p0 + 17 from by omega]; exact g_17
    · rw [show p0 + 2 + 15 * 2 = p0 + 32 from by omega]; exact g_32
    · rw [show p0 + 2 + 15 * 3 = p0 + 47 from by omega]; exact g_47
    · rw [show p0 + 2 + 15 * 4 = p0 + 62 from by omega]; exact g_62
    · rw [show p0 + 2 + 15 * 5 = p0 + 77 from by omega]; exact g_77
  replace k_0 := (hF_9 p0 (by omega)).trans k_0
  replace hE : ∀ q : Nat, q < p0 → Ω9 q = Ω q := fun q h => (hF_9 q (by omega)).trans (hE q h)
  exact W.vret hx hb hr (fun t ht hW9 => ⟨⟨Ω9, rfl, ⟨⟨⟨k_0, k_B⟩, g_A⟩, hE⟩, by rw [oBz, ht]; exact ⟨hW, hz⟩⟩, hS.F ht⟩) hS.2.2 dX2_init_40
