/-! what the law's walk stands on: numbers, pictures that stay, what holds at the start -/
theorem nI_2 (a : Nat) : nI a + 2 = nI (a + 2) := nI_add a 2
theorem nI_3 (a : Nat) : nI a + Int32.ofInt 3 = nI (a + 3) := nI_add a 3
theorem inMB_o {G : Gm} {Ω : Om} {x : Nat} {k : MBk} (h : inMB G Ω x k) : ∃ fs : List Value, Ω x = some (.inr (8, fs)) := by
  obtain ⟨b, pb, -, h_p0, -⟩ := h
  exact ⟨_, inMBO_o h_p0⟩
set_option maxHeartbeats 2000000 in
theorem inMB.keep {G : Gm} {Ω Ω1 : Om} {x : Nat} {k : MBk} (h : inMB G Ω x k) (hF : ∀ q : Nat, x ≤ q → q < x + 175 → Ω1 q = Ω q) : inMB G Ω1 x k := by
  obtain ⟨b, pb, hbo, h_p0, h_p0t, h_p0p, h_p0pk, h_p0n, h_p0nd, h_p0nm, h_p0nj, h_p0h, h_p0a, h_p0i, h_p0v, h_p0b, h_p0pb, h_S⟩ := h
  exact ⟨b, pb, hbo, h_p0.keep (fun q h1 h2 => hF q (by omega) (by omega)), h_p0t.keep (fun q h1 h2 => hF q (by omega) (by omega)), h_p0p.keep (fun q h1 h2 => hF q (by omega) (by omega)), h_p0pk.keep (fun q h1 h2 => hF q (by omega) (by omega)), h_p0n.keep (fun q h1 h2 => hF q (by omega) (by omega)), h_p0nd.keep (fun q h1 h2 => hF q (by omega) (by omega)), h_p0nm.keep (fun q h1 h2 => hF q (by omega) (by omega)), h_p0nj.keep (fun q h1 h2 => hF q (by omega) (by omega)), h_p0h.keep (fun q h1 h2 => hF q (by omega) (by omega)), h_p0a.keep (fun q h1 h2 => hF q (by omega) (by omega)), h_p0i.keep (fun q h1 h2 => hF q (by omega) (by omega)), h_p0v.keep (fun q h1 h2 => hF q (by omega) (by omega)), h_p0b.keep (fun q h1 h2 => hF q (by omega) (by omega)), h_p0pb.keep (fun q h1 h2 => hF q (by omega) (by omega)), fun i hi => (h_S i hi).keep (fun q h1 h2 => hF q (by omega) (by omega))⟩
theorem w_AO : Cond.arrayOver (.object "MirrorBytes$Situation") ∈ lw_tbl := List.mem_of_getElem? (i := 292) (by decide +kernel)
theorem w_lays : Cond.laysStatic "MirrorBytes" "KIND_LETTERS" "[C" ∈ lw_tbl := List.mem_of_getElem? (i := 414) (by decide +kernel)
theorem st_K {args : Array Value} {s : State} (hts0 : ∀ w ∈ lw_tbl, w.before args s = true) : ∃ G : Gm, oK G s := by
  have hts : ∀ w ∈ gt, w.before args s = true := fun w h => hts0 w (gt_tbl h)
  obtain ⟨c0, i0, k0⟩ := u_known (C := RX0) (T := TX0) (N := 15) (n := 15) hts ig0 (hts _ ia_X0)
  obtain ⟨c1, i1, k1⟩ := u_known (C := RX1) (T := TX1) (N := 4) (n := 4) hts ig1 (hts _ ia_X1)
  obtain ⟨c2, i2, k2⟩ := u_known (C := RX2) (T := TX2) (N := 3) (n := 3) hts ig2 (hts _ ia_X2)
  obtain ⟨c3, i3, k3⟩ := u_known (C := RX3) (T := TX3) (N := 4) (n := 4) hts ig3 (hts _ ia_X3)
  obtain ⟨c4, i4, k4⟩ := u_known (C := RX4) (T := TX4) (N := 2) (n := 2) hts ig4 (hts _ ia_X4)
  obtain ⟨c5, i5, k5⟩ := u_known (C := RX5) (T := TX5) (N := 5) (n := 5) hts ig5 (hts _ ia_X5)
  obtain ⟨c6, i6, k6⟩ := u_known (C := RX6) (T := TX6) (N := 2) (n := 2) hts ig6 (hts _ ia_X6)
  obtain ⟨c7, i7, k7⟩ := u_known (C := RX7) (T := TX7) (N := 4) (n := 4) hts ig7 (hts _ ia_X7)
  obtain ⟨c8, i8, k8⟩ := u_known (C := RX8) (T := TX8) (N := 8) (n := 8) hts ig8 (hts _ ia_X8)
  obtain ⟨c9, i9, k9⟩ := u_known (C := RX9) (T := TX9) (N := 14) (n := 14) hts ig9 (hts _ ia_X9)
  obtain ⟨cI, kI, pI, f1, f2, f3⟩ := Cond.arrayClass_spec (hts _ wm_arrI)
  obtain ⟨cZ, kZ, pZ, g1, g2, g3⟩ := Cond.arrayClass_spec (hts _ wm_arrZ)
  obtain ⟨comp, cS, kS, h1, -, h2, h3, h4⟩ := Cond.arrayOver_spec (hts0 _ w_AO)
  refine ⟨((fun k => [c0, c1, c2, c3, c4, c5, c6, c7, c8, c9].getD k c0, fun k => [i0, i1, i2, i3, i4, i5, i6, i7, i8, i9].getD k i0), cI, cZ, cS), ?_, ?_⟩
  · intro k q hq
    match k, hq with
    | 0, hq => cases hq; exact k0
    | 1, hq => cases hq; exact k1
    | 2, hq => cases hq; exact k2
    | 3, hq => cases hq; exact k3
    | 4, hq => cases hq; exact k4
    | 5, hq => cases hq; exact k5
    | 6, hq => cases hq; exact k6
    | 7, hq => cases hq; exact k7
    | 8, hq => cases hq; exact k8
    | 9, hq => cases hq; exact k9
    | k + 10, hq => simp [vwCl] at hq
  · intro k q hq
    match k, hq with
    | 0, hq => cases hq; exact ⟨fun N z => ⟨fun k h => (by cases h), kI, f2, pI, f3⟩, f1⟩
    | 1, hq => cases hq; exact ⟨fun N z => ⟨fun k h => (by cases h), kZ, g2, pZ, g3⟩, g1⟩
    | 2, hq => cases hq; exact ⟨fun N z => ⟨fun k h => (by cases h), kS, h2, comp, h3⟩, kS, comp, h2, h3, h1, h4⟩
    | k + 3, hq => simp [tysG] at hq
theorem st_N {args : Array Value} {s : State} (hts0 : ∀ w ∈ lw_tbl, w.before args s = true) : oN s := by
  refine ⟨?_, va_Nw.of rfl (hts0 _ wm_kl)⟩
  intro q hq
  simp only [nestM, List.mem_cons, List.not_mem_nil, or_false] at hq
  rcases hq with rfl | rfl | rfl | rfl | rfl | rfl | rfl | rfl | rfl | rfl
  · exact va_Nw.of rfl (hts0 _ mn_X8_9)
  · exact va_Nw.of rfl (hts0 _ mn_X4_11)
  · exact va_Nw.of rfl (hts0 _ mn_X8_27)
  · exact va_Nw.of rfl (hts0 _ mn_X5_11)
  · exact va_Nw.of rfl (hts0 _ mn_X5_23)
  · exact va_Nw.of rfl (hts0 _ mn_X2_17)
  · exact va_Nw.of rfl (hts0 _ mn_X8_49)
  · exact va_Nw.of rfl (hts0 _ mn_X8_56)
  · exact va_Nw.of rfl (hts0 _ mn_X1_62)
  · exact va_Nw.of rfl (hts0 _ mn_X0_58)
set_option maxRecDepth 100000 in
theorem st_Z {args : Array Value} {s : State} (hts0 : ∀ w ∈ lw_tbl, w.before args s = true) (hgv : (Jvm.Cond.and given_1 narrow_1).before args s = true) : oZ (fun q : Nat => s.heap.size ≤ q) s s.heap := by
  have hs := flat_of_before _ hgv
  have hA : ∀ a : Nat, a < s.heap.size → ¬ (fun q : Nat => s.heap.size ≤ q) a := fun a h1 h2 => Nat.not_le.mpr h1 h2
  have harr : (Cond.arrayOf (.static "MirrorBytes" "KIND_LETTERS" "[C") .char).before args s = true := hs _ (by decide +kernel)
  have hlen : (Cond.eq (.length (.static "MirrorBytes" "KIND_LETTERS" "[C")) (.int 16)).before args s = true := hs _ (by decide +kernel)
  have hel : ∀ j : Nat, j < 16 → (Cond.eq (.elem (.static "MirrorBytes" "KIND_LETTERS" "[C") (.int (Int32.ofNat j))) (.int (kl j))).before args s = true := by
    intro j hj
    match j, hj with
    | 0, _ => exact hs _ (by decide +kernel)
    | 1, _ => exact hs _ (by decide +kernel)
    | 2, _ => exact hs _ (by decide +kernel)
    | 3, _ => exact hs _ (by decide +kernel)
    | 4, _ => exact hs _ (by decide +kernel)
    | 5, _ => exact hs _ (by decide +kernel)
    | 6, _ => exact hs _ (by decide +kernel)
    | 7, _ => exact hs _ (by decide +kernel)
    | 8, _ => exact hs _ (by decide +kernel)
    | 9, _ => exact hs _ (by decide +kernel)
    | 10, _ => exact hs _ (by decide +kernel)
    | 11, _ => exact hs _ (by decide +kernel)
    | 12, _ => exact hs _ (by decide +kernel)
    | 13, _ => exact hs _ (by decide +kernel)
    | 14, _ => exact hs _ (by decide +kernel)
    | 15, _ => exact hs _ (by decide +kernel)
    | n + 16, h => exact absurd h (by omega)
  obtain ⟨t, ht, hT⟩ := va_Tof (f := fun j => .int (kl j)) (A := fun q : Nat => s.heap.size ≤ q) (by decide) harr (va_eqt hlen) (fun j hj => va_eqt (hel j hj)) hA
  exact ⟨t, va_Zref (hts0 _ w_lays) (hts0 _ (gt_tbl ini_X8)) ht hA, hT⟩
