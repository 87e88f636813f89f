/-! the law's loop, and its start -/
set_option maxHeartbeats 4000000 in
set_option maxRecDepth 100000 in
theorem law_case {p : Program} {l : Launch} {e : Env} {s : State} {m : MethodId} {below : List Frame} {meth : Method} {c : Code} {b L i x : Nat} {xs : Nat → Int32} {G : Gm} {Q : State → Prop} (hx : p.tables.exec = Jvm.exec) (hb : c.code = code) (hml : c.maxLocals = 4) (hown : s.vm.findClass RL = some m.cls) (hts : ∀ w ∈ gt, w.before #[Value.ref b] s = true) (hK : oK G s) (hN : oN s) (hZ : oZ (fun q : Nat => s.heap.size ≤ q) s s.heap) (hX : va_X b L xs s s.heap) (hbl : b < s.heap.size) (hL : L ≤ 1536) (hi : i + 3 ≤ L) {k : MBk} {q : MMk} {Ω : Om} {H : Heap} {locs : List Loc} {ls : Array Slot} (hl : lv_has ls 4 [(0, .ref b), (1, .ref x), (2, .ref (x + 175)), (3, .int (nI i))]) (hMB : inMB G Ω x k) (hMM : inMM G Ω (x + 175) q) (hR : Rel k q) (hW : oW G (fun q : Nat => s.heap.size ≤ q) Ω H) (hS : va_S (fun q : Nat => s.heap.size ≤ q) s.heap H locs) (kk : ∀ (k : MBk) (q : MMk) (Ω : Om) (H : Heap) (locs : List Loc), inMB G Ω x k → inMM G Ω (x + 175) q → Rel k q → oW G (fun q : Nat => s.heap.size ≤ q) Ω H → va_S (fun q : Nat => s.heap.size ≤ q) s.heap H locs → W p l e room_1 s m #[Value.ref b] below meth c H locs 183 3303 Q (F0 m 766 ls [])) : W p l e room_1 s m #[Value.ref b] below meth c H locs 183 3303 Q (F0 m 32 ls [.int (xs (nI i).toNatClampNeg &&& 31)]) := by
  generalize xs (nI i).toNatClampNeg &&& 31 = v
  rcases pk_ix v (n := 24) (by decide) with h0 | h0 | ⟨j, hj, rfl⟩
  · exact lv_tableOut (tgt := 766) hx hb d_law_32 (Or.inl (by have h1 := Int32.lt_iff_toInt_lt.mp h0; exact h1)) (by decide) (kk _ _ _ _ _ hMB hMM hR hW hS)
  · exact lv_tableOut (tgt := 766) hx hb d_law_32 (Or.inr (by have h1 := Int32.le_iff_toInt_le.mp h0; rw [nI_toInt (by decide)] at h1; omega)) (by decide) (kk _ _ _ _ _ hMB hMM hR hW hS)
  · match j, hj with
    | 0, _ => exact lv_tableIn (tgt := 144) (off := 112) hx hb d_law_32 (by decide) (by decide) (by decide +kernel) (by decide) (case_type hx hb hml hown hts hK hN hZ hX hbl hL hi hl hMB hMM hR hW hS kk)
    | 1, _ => exact lv_tableIn (tgt := 167) (off := 135) hx hb d_law_32 (by decide) (by decide) (by decide +kernel) (by decide) (case_clear hx hb hml hown hts hK hN hZ hX hbl hL hi hl hMB hMM hR hW hS kk)
    | 2, _ => exact lv_tableIn (tgt := 180) (off := 148) hx hb d_law_32 (by decide) (by decide) (by decide +kernel) (by decide) (case_tells hx hb hml hown hts hK hN hZ hX hbl hL hi hl hMB hMM hR hW hS kk)
    | 3, _ => exact lv_tableIn (tgt := 193) (off := 161) hx hb d_law_32 (by decide) (by decide) (by decide +kernel) (by decide) (case_resets hx hb hml hown hts hK hN hZ hX hbl hL hi hl hMB hMM hR hW hS kk)
    | 4, _ => exact lv_tableIn (tgt := 206) (off := 174) hx hb d_law_32 (by decide) (by decide) (by decide +kernel) (by decide) (case_reads hx hb hml hown hts hK hN hZ hX hbl hL hi hl hMB hMM hR hW hS kk)
    | 5, _ => exact lv_tableIn (tgt := 229) (off := 197) hx hb d_law_32 (by decide) (by decide) (by decide +kernel) (by decide) (case_writes hx hb hml hown hts hK hN hZ hX hbl hL hi hl hMB hMM hR hW hS kk)
    | 6, _ => exact lv_tableIn (tgt := 262) (off := 230) hx hb d_law_32 (by decide) (by decide) (by decide +kernel) (by decide) (case_sets hx hb hml hown hts hK hN hZ hX hbl hL hi hl hMB hMM hR hW hS kk)
    | 7, _ => exact lv_tableIn (tgt := 295) (off := 263) hx hb d_law_32 (by decide) (by decide) (by decide +kernel) (by decide) (case_breaks hx hb hml hown hts hK hN hZ hX hbl hL hi hl hMB hMM hR hW hS kk)
    | 8, _ => exact lv_tableIn (tgt := 328) (off := 296) hx hb d_law_32 (by decide) (by decide) (by decide +kernel) (by decide) (case_undo hx hb hml hown hts hK hN hZ hX hbl hL hi hl hMB hMM hR hW hS kk)
    | 9, _ => exact lv_tableIn (tgt := 341) (off := 309) hx hb d_law_32 (by decide) (by decide) (by decide +kernel) (by decide) (case_field hx hb hml hown hts hK hN hZ hX hbl hL hi hl hMB hMM hR hW hS kk)
    | 10, _ => exact lv_tableIn (tgt := 374) (off := 342) hx hb d_law_32 (by decide) (by decide) (by decide +kernel) (by decide) (case_register hx hb hml hown hts hK hN hZ hX hbl hL hi hl hMB hMM hR hW hS kk)
    | 11, _ => exact lv_tableIn (tgt := 407) (off := 375) hx hb d_law_32 (by decide) (by decide) (by decide +kernel) (by decide) (case_alias hx hb hml hown hts hK hN hZ hX hbl hL hi hl hMB hMM hR hW hS kk)
    | 12, _ => exact lv_tableIn (tgt := 440) (off := 408) hx hb d_law_32 (by decide) (by decide) (by decide +kernel) (by decide) (case_at hx hb hml hown hts hK hN hZ hX hbl hL hi hl hMB hMM hR hW hS kk)
    | 13, _ => exact lv_tableIn (tgt := 463) (off := 431) hx hb d_law_32 (by decide) (by decide) (by decide +kernel) (by decide) (case_peek hx hb hml hown hts hK hN hZ hX hbl hL hi hl hMB hMM hR hW hS kk)
    | 14, _ => exact lv_tableIn (tgt := 496) (off := 464) hx hb d_law_32 (by decide) (by decide) (by decide +kernel) (by decide) (case_differed hx hb hml hown hts hK hN hZ hX hbl hL hi hl hMB hMM hR hW hS kk)
    | 15, _ => exact lv_tableIn (tgt := 519) (off := 487) hx hb d_law_32 (by decide) (by decide) (by decide +kernel) (by decide) (case_log hx hb hml hown hts hK hN hZ hX hbl hL hi hl hMB hMM hR hW hS kk)
    | 16, _ => exact lv_tableIn (tgt := 552) (off := 520) hx hb d_law_32 (by decide) (by decide) (by decide +kernel) (by decide) (case_suspects hx hb hml hown hts hK hN hZ hX hbl hL hi hl hMB hMM hR hW hS kk)
    | 17, _ => exact lv_tableIn (tgt := 575) (off := 543) hx hb d_law_32 (by decide) (by decide) (by decide +kernel) (by decide) (case_clashes hx hb hml hown hts hK hN hZ hX hbl hL hi hl hMB hMM hR hW hS kk)
    | 18, _ => exact lv_tableIn (tgt := 598) (off := 566) hx hb d_law_32 (by decide) (by decide) (by decide +kernel) (by decide) (case_touched hx hb hml hown hts hK hN hZ hX hbl hL hi hl hMB hMM hR hW hS kk)
    | 19, _ => exact lv_tableIn (tgt := 631) (off := 599) hx hb d_law_32 (by decide) (by decide) (by decide +kernel) (by decide) (case_way hx hb hml hown hts hK hN hZ hX hbl hL hi hl hMB hMM hR hW hS kk)
    | 20, _ => exact lv_tableIn (tgt := 664) (off := 632) hx hb d_law_32 (by decide) (by decide) (by decide +kernel) (by decide) (case_walk hx hb hml hown hts hK hN hZ hX hbl hL hi hl hMB hMM hR hW hS kk)
    | 21, _ => exact lv_tableIn (tgt := 697) (off := 665) hx hb d_law_32 (by decide) (by decide) (by decide +kernel) (by decide) (case_keep hx hb hml hown hts hK hN hZ hX hbl hL hi hl hMB hMM hR hW hS kk)
    | 22, _ => exact lv_tableIn (tgt := 720) (off := 688) hx hb d_law_32 (by decide) (by decide) (by decide +kernel) (by decide) (case_back hx hb hml hown hts hK hN hZ hX hbl hL hi hl hMB hMM hR hW hS kk)
    | 23, _ => exact lv_tableIn (tgt := 743) (off := 711) hx hb d_law_32 (by decide) (by decide) (by decide +kernel) (by decide) (case_count hx hb hml hown hts hK hN hZ hX hbl hL hi hl hMB hMM hR hW hS kk)
    | n + 24, h => exact absurd h (by omega)
set_option maxHeartbeats 4000000 in
set_option maxRecDepth 100000 in
theorem law_loop {p : Program} {l : Launch} {e : Env} {s : State} {m : MethodId} {below : List Frame} {meth : Method} {c : Code} {b L x : Nat} {xs : Nat → Int32} {G : Gm} (hL : L ≤ 1536) (C0 : lw_At p s m meth c b L xs) (hK : oK G s) (hN : oN s) (hZ : oZ (fun q : Nat => s.heap.size ≤ q) s s.heap) :
    ∀ (n i : Nat), i ≤ L → L + 1 ≤ i + n → ∀ (k : MBk) (q : MMk) (Ω : Om) (H : Heap) (locs : List Loc) (ls : Array Slot), lv_has ls 4 [(0, .ref b), (1, .ref x), (2, .ref (x + 175)), (3, .int (nI i))] → inMB G Ω x k → inMM G Ω (x + 175) q → Rel k q → oW G (fun q : Nat => s.heap.size ≤ q) Ω H → va_S (fun q : Nat => s.heap.size ≤ q) s.heap H locs → W p l e room_1 s m #[Value.ref b] below meth c H locs 183 3303 (lw_Z below #[Value.ref b] s) (F0 m 18 ls []) := by
  obtain ⟨hx, hb, hr, hml, hown, hts0, hX, hbl, hlocks, hgv⟩ := C0
  have hts : ∀ w ∈ gt, w.before #[Value.ref b] s = true := fun w h => hts0 w (gt_tbl h)
  have hbA : ¬ (fun q : Nat => s.heap.size ≤ q) b := Nat.not_le.mpr hbl
  intro n
  induction n with
  | zero =>
    intro i h1 h2
    exact absurd h2 (by omega)
  | succ n ih =>
    intro i hiL hin k q Ω H locs ls hl hMB hMM hR hW hS
    refine lv_iload_n hx hb d_law_18 rfl (lv_at hl 3 rfl) ?_
    refine lv_aload_n hx hb d_law_19 rfl (lv_at hl 0 rfl) ?_
    refine va_slen hx hb hX hbl hbA hS d_law_20 ?_
    refine lv_iconst (v := 3) hx hb d_law_21 (by decide) ?_
    refine lv_isub hx hb d_law_22 ?_
    refine lv_icmp_gt (tgt := 772) hx hb d_law_23 (by decide) (fun _ => ?_) (fun c_ => ?_)
    · refine lv_iconst (v := 1) hx hb d_law_772 (by decide) ?_
      refine va_forget (fun q hq => hS.2.2 q hq) ?_
      refine W.widen (k := 600000) (n := 7302250) (by decide) (by decide) ?_
      exact lw_ret hx hb hr hlocks d_law_773
    · have hi : i + 3 ≤ L := by
        rcases Nat.lt_or_ge L (i + 3) with h | h
        · refine absurd ?_ c_
          rw [Int32.lt_iff_toInt_lt]
          have e1 : (Int32.ofNat L).toInt = (L : Int) := nI_toInt (by omega)
          have e3 : (3 : Int32).toInt = 3 := by decide
          rw [fb_subI (by rw [e1, e3]; omega) (by rw [e1, e3]; omega), e1, e3, nI_toInt (by omega)]
          omega
        · exact h
      refine lv_aload_n hx hb d_law_26 rfl (lv_at hl 0 rfl) ?_
      refine lv_iload_n hx hb d_law_27 rfl (lv_at hl 3 rfl) ?_
      refine va_sld hx hb hX hbl hbA hS (vp_in_nI (by omega) (by omega)) d_law_28 ?_
      refine lv_bipush (v := 31) hx hb d_law_29 (by decide) ?_
      refine lv_iand hx hb d_law_31 ?_
      refine law_case hx hb hml hown hts hK hN hZ hX hbl hL hi hl hMB hMM hR hW hS ?_
      intro k q Ω H locs hMB hMM hR hW hS
      refine lv_iinc (v := nI (i + 3)) (lv' := [(3, .int (nI (i + 3))), (0, .ref b), (1, .ref x), (2, .ref (x + 175))]) hx hb d_law_766 hl (k := 3) rfl (nI_3 i) (by decide) rfl (fun ls hl => ?_)
      refine lv_goto (tgt := 18) hx hb d_law_769 (by decide) ?_
      exact ih (i + 3) hi (by omega) k q Ω H locs ls (lv_sub hl [1, 2, 3, 0] rfl) hMB hMM hR hW hS
