theorem dX4_exchange_0 : decode cX4_exchange 0 = .ok (.aload_n 0, 1) := by decide +kernel
theorem dX4_exchange_1 : decode cX4_exchange 1 = .ok (.getfield 12, 3) := by decide +kernel
theorem dX4_exchange_4 : decode cX4_exchange 4 = .ok (.astore_n 2, 1) := by decide +kernel
theorem dX4_exchange_5 : decode cX4_exchange 5 = .ok (.aload_n 0, 1) := by decide +kernel
theorem dX4_exchange_6 : decode cX4_exchange 6 = .ok (.aload_n 1, 1) := by decide +kernel
theorem dX4_exchange_7 : decode cX4_exchange 7 = .ok (.putfield 12, 3) := by decide +kernel
theorem dX4_exchange_10 : decode cX4_exchange 10 = .ok (.aload_n 2, 1) := by decide +kernel
theorem dX4_exchange_11 : decode cX4_exchange 11 = .ok (.areturn, 1) := by decide +kernel
theorem dX8_tells_0 : decode cX8_tells 0 = .ok (.aload_n 0, 1) := by decide +kernel
theorem dX8_tells_1 : decode cX8_tells 1 = .ok (.getfield 21, 3) := by decide +kernel
theorem dX8_tells_4 : decode cX8_tells 4 = .ok (.invokevirtual 73, 3) := by decide +kernel
theorem dX8_tells_7 : decode cX8_tells 7 = .ok (.istore_n 1, 1) := by decide +kernel
theorem dX8_tells_8 : decode cX8_tells 8 = .ok (.iload_n 1, 1) := by decide +kernel
theorem dX8_tells_9 : decode cX8_tells 9 = .ok (.bipush (-10), 2) := by decide +kernel
theorem dX8_tells_11 : decode cX8_tells 11 = .ok (.if_icmp .gt 5, 3) := by decide +kernel
theorem dX8_tells_14 : decode cX8_tells 14 = .ok (.iload_n 1, 1) := by decide +kernel
theorem dX8_tells_15 : decode cX8_tells 15 = .ok (.ireturn, 1) := by decide +kernel
theorem dX8_tells_16 : decode cX8_tells 16 = .ok (.aload_n 0, 1) := by decide +kernel
theorem dX8_tells_17 : decode cX8_tells 17 = .ok (.aload_n 0, 1) := by decide +kernel
theorem dX8_tells_18 : decode cX8_tells 18 = .ok (.getfield 21, 3) := by decide +kernel
theorem dX8_tells_21 : decode cX8_tells 21 = .ok (.aload_n 0, 1) := by decide +kernel
theorem dX8_tells_22 : decode cX8_tells 22 = .ok (.getfield 57, 3) := by decide +kernel
theorem dX8_tells_25 : decode cX8_tells 25 = .ok (.invokevirtual 77, 3) := by decide +kernel
theorem dX8_tells_28 : decode cX8_tells 28 = .ok (.putfield 57, 3) := by decide +kernel
theorem dX8_tells_31 : decode cX8_tells 31 = .ok (.aload_n 0, 1) := by decide +kernel
theorem dX8_tells_32 : decode cX8_tells 32 = .ok (.getfield 10, 3) := by decide +kernel
theorem dX8_tells_35 : decode cX8_tells 35 = .ok (.iconst 0, 1) := by decide +kernel
theorem dX8_tells_36 : decode cX8_tells 36 = .ok (.putfield 65, 3) := by decide +kernel
theorem dX8_tells_39 : decode cX8_tells 39 = .ok (.aload_n 0, 1) := by decide +kernel
theorem dX8_tells_40 : decode cX8_tells 40 = .ok (.getfield 28, 3) := by decide +kernel
theorem dX8_tells_43 : decode cX8_tells 43 = .ok (.aload_n 0, 1) := by decide +kernel
theorem dX8_tells_44 : decode cX8_tells 44 = .ok (.getfield 57, 3) := by decide +kernel
theorem dX8_tells_47 : decode cX8_tells 47 = .ok (.invokevirtual 81, 3) := by decide +kernel
theorem dX8_tells_50 : decode cX8_tells 50 = .ok (.aload_n 0, 1) := by decide +kernel
theorem dX8_tells_51 : decode cX8_tells 51 = .ok (.getfield 35, 3) := by decide +kernel
theorem dX8_tells_54 : decode cX8_tells 54 = .ok (.invokevirtual 85, 3) := by decide +kernel
theorem dX8_tells_57 : decode cX8_tells 57 = .ok (.iconst 0, 1) := by decide +kernel
theorem dX8_tells_58 : decode cX8_tells 58 = .ok (.istore_n 2, 1) := by decide +kernel
theorem dX8_tells_59 : decode cX8_tells 59 = .ok (.iload_n 2, 1) := by decide +kernel
theorem dX8_tells_60 : decode cX8_tells 60 = .ok (.iconst 2, 1) := by decide +kernel
theorem dX8_tells_61 : decode cX8_tells 61 = .ok (.if_icmp .ge 16, 3) := by decide +kernel
theorem dX8_tells_64 : decode cX8_tells 64 = .ok (.aload_n 0, 1) := by decide +kernel
theorem dX8_tells_65 : decode cX8_tells 65 = .ok (.getfield 43, 3) := by decide +kernel
theorem dX8_tells_68 : decode cX8_tells 68 = .ok (.iload_n 2, 1) := by decide +kernel
theorem dX8_tells_69 : decode cX8_tells 69 = .ok (.iconst 0, 1) := by decide +kernel
theorem dX8_tells_70 : decode cX8_tells 70 = .ok (.bastore, 1) := by decide +kernel
theorem dX8_tells_71 : decode cX8_tells 71 = .ok (.iinc 2 1, 3) := by decide +kernel
theorem dX8_tells_74 : decode cX8_tells 74 = .ok (.goto (-15), 3) := by decide +kernel
theorem dX8_tells_77 : decode cX8_tells 77 = .ok (.iload_n 1, 1) := by decide +kernel
theorem dX8_tells_78 : decode cX8_tells 78 = .ok (.ireturn, 1) := by decide +kernel
def f_X8_tellsW_L59 (p0t_1 : Int32) (p0n_0 : Int32) (p0n_1 : Int32) (p0nd_0 : Fn) (p0nd_1 : Fn) (p0nd_2 : Fn) (p0nd_3 : Fn) (p0nm_0 : Fn) (p0nm_1 : Fn) (p0nm_2 : Fn) (p0nm_3 : Fn) (p0nj_0 : Int32) (p0h_2 : Int32) (x1 : Int32) : Nat → Int32 → Fn → Int32 × Int32 × Int32 × Int32 × Fn × Fn × Fn × Fn × Fn × Fn × Fn × Fn × Int32 × Int32 × Fn
  | 0, _, p0i_0 => (0, p0t_1, p0n_0, p0n_1, p0nd_0, p0nd_1, p0nd_2, p0nd_3, p0nm_0, p0nm_1, p0nm_2, p0nm_3, p0nj_0, p0h_2, p0i_0)
  | n + 1, x2, p0i_0 => 
    if (2 : Int32) ≤ x2 then (x1, p0t_1, p0n_0, p0n_1, p0nd_0, p0nd_1, p0nd_2, p0nd_3, p0nm_0, p0nm_1, p0nm_2, p0nm_3, p0nj_0, p0h_2, p0i_0)
    else ((f_X8_tellsW_L59 p0t_1 p0n_0 p0n_1 p0nd_0 p0nd_1 p0nd_2 p0nd_3 p0nm_0 p0nm_1 p0nm_2 p0nm_3 p0nj_0 p0h_2 x1 n) (x2 + (1 : Int32)) (upd p0i_0 x2.toNatClampNeg (vp_nar .boolean (0 : Int32))))
def f_X8_tellsW_C50 (p0t_1 : Int32) (p0i_0 : Fn) (x1 : Int32) (p0n_0 : Int32) (p0n_1 : Int32) (p0nd_0 : Fn) (p0nd_1 : Fn) (p0nd_2 : Fn) (p0nd_3 : Fn) (p0nm_0 : Fn) (p0nm_1 : Fn) (p0nm_2 : Fn) (p0nm_3 : Fn) (p0nj_0 : Int32) : Int32 × Int32 × Int32 × Int32 × Fn × Fn × Fn × Fn × Fn × Fn × Fn × Fn × Int32 × Int32 × Fn := (f_X8_tellsW_L59 p0t_1 p0n_0 p0n_1 p0nd_0 p0nd_1 p0nd_2 p0nd_3 p0nm_0 p0nm_1 p0nm_2 p0nm_3 p0nj_0 f_X2_forget x1 4000 (0 : Int32) p0i_0)
def f_X8_tellsW (p0nd_0 : Fn) (p0nd_1 : Fn) (p0nd_2 : Fn) (p0nd_3 : Fn) (p0nm_0 : Fn) (p0nm_1 : Fn) (p0nm_2 : Fn) (p0nm_3 : Fn) (p0i_0 : Fn) (p0b_0 : Blk) (x1 : Int32) : Int32 × Int32 × Int32 × Int32 × Fn × Fn × Fn × Fn × Fn × Fn × Fn × Fn × Int32 × Int32 × Fn := (f_X8_tellsW_C50 (0 : Int32) p0i_0 x1 ((f_X5_startWith p0nd_0 p0nd_1 p0nd_2 p0nd_3 p0nm_0 p0nm_1 p0nm_2 p0nm_3 p0b_0).1) ((f_X5_startWith p0nd_0 p0nd_1 p0nd_2 p0nd_3 p0nm_0 p0nm_1 p0nm_2 p0nm_3 p0b_0).2.1) ((f_X5_startWith p0nd_0 p0nd_1 p0nd_2 p0nd_3 p0nm_0 p0nm_1 p0nm_2 p0nm_3 p0b_0).2.2.1) ((f_X5_startWith p0nd_0 p0nd_1 p0nd_2 p0nd_3 p0nm_0 p0nm_1 p0nm_2 p0nm_3 p0b_0).2.2.2.1) ((f_X5_startWith p0nd_0 p0nd_1 p0nd_2 p0nd_3 p0nm_0 p0nm_1 p0nm_2 p0nm_3 p0b_0).2.2.2.2.1) ((f_X5_startWith p0nd_0 p0nd_1 p0nd_2 p0nd_3 p0nm_0 p0nm_1 p0nm_2 p0nm_3 p0b_0).2.2.2.2.2.1) ((f_X5_startWith p0nd_0 p0nd_1 p0nd_2 p0nd_3 p0nm_0 p0nm_1 p0nm_2 p0nm_3 p0b_0).2.2.2.2.2.2.1) ((f_X5_startWith p0nd_0 p0nd_1 p0nd_2 p0nd_3 p0nm_0 p0nm_1 p0nm_2 p0nm_3 p0b_0).2.2.2.2.2.2.2.1) ((f_X5_startWith p0nd_0 p0nd_1 p0nd_2 p0nd_3 p0nm_0 p0nm_1 p0nm_2 p0nm_3 p0b_0).2.2.2.2.2.2.2.2.1) ((f_X5_startWith p0nd_0 p0nd_1 p0nd_2 p0nd_3 p0nm_0 p0nm_1 p0nm_2 p0nm_3 p0b_0).2.2.2.2.2.2.2.2.2.1) ((f_X5_startWith p0nd_0 p0nd_1 p0nd_2 p0nd_3 p0nm_0 p0nm_1 p0nm_2 p0nm_3 p0b_0).2.2.2.2.2.2.2.2.2.2))
theorem R_parseL {len : Int32} {tx : Fn} (hl : 0 ≤ len.toInt ∧ len.toInt ≤ 160) : ∀ (n : Nat) (x s e k : Int32) (u : Blk), BlkInv u → 0 ≤ e.toInt ∧ e.toInt ≤ len.toInt → BlkInv (f_X4_parse_L16 tx len n x s e k u).2.2.2.2 := by
  intro n
  induction n with
  | zero => intro x s e k u hB _; exact hB
  | succ n ih =>
    intro x s e k u hB he
    rw [f_X4_parse_L16]
    split
    · exact hB
    · rw [f_X4_parse_C30]
      have ha := R_advance (tx := tx) hl he
      split
      · exact hB
      · rw [f_X4_parse_C47]
        have hi := R_readItem (k := (f_X7_advance e tx len).2.2) (tx := tx) hB hl ha
        split
        · exact hi.2
        · exact ih _ _ _ _ _ hi.2 ⟨Int.le_trans hi.1.1 hi.1.2.1, hi.1.2.2⟩
theorem R_parse {s k len : Int32} {tx : Fn} {u : Blk} (hB : BlkInv u) (hl : 0 ≤ len.toInt ∧ len.toInt ≤ 160) : BlkInv (f_X4_parse s k tx len u).2.2.2.2 := by
  have h0 : f_X7_rewind.toInt = 0 := by decide
  exact R_parseL hl 4000 0 s f_X7_rewind k _ (BI_empty hB) ⟨by omega, by omega⟩
section OR2
variable {p : Program} {l : Launch} {e : Env} {R : Room} {s : State} {m : MethodId} {args : Array Value} {below : List Frame} {meth : Method} {c : Code} {H : Heap} {locs : List Loc} {cells slots : Nat} {Q : State → Prop}
variable {cc : ByteArray} {pc : Nat} {ls : Array Slot} {rest : List Value} {G : Gm} {A A0 : Nat → Prop} {Ω : Om} {H0 : Heap} {a : Nat}
theorem o_Vr {y : MethodName} {bytes : ByteArray} {maxL nL index ci N n : Nat} {ret : Option FieldType} {own : String} {T : u_T} {As st0 : List Value} {rm : Room} {fs : List Value} {post : Om → Prop} {ra : Nat} (hx : p.tables.exec = Jvm.exec) (hb : c.code = cc) (hml : c.maxLocals = nL) (hown : s.vm.findClass own = some m.cls) (hts : ∀ w ∈ gt, w.before args s = true) (hK : oK G s) (hN : oN s) (hZ : oZ A0 s s.heap) (hW : oW G A Ω H) (hS : va_S A0 s.heap H locs) (hA : ∀ q, A q → A0 q)
    (hM : Met l y (wz y bytes maxL ret) rm (va_Pc (.ref a :: As) (oS G A Ω)) (va_Qr post (fun Ω1 z t => z = ra ∧ oB G A Ω1 t) A) 0 0 A) (he : Ω a = some (.inr (ci, fs))) (hc : vwCl[ci]? = some (y.cls, T, N)) (hg : GoodIn gt (wsV own index y.cls y (wz y bytes maxL ret))) (hn : o_num y n rm R maxL = true) (hcs : cells ≤ R.cells ∧ slots ≤ R.slots) (hls : ls.size = nL) (hcat : (rest.map fun v => v.category).sum ≤ 8) (hlen : As.length = n) (hst : st0 = As.reverse ++ .ref a :: rest) (hdg : decode cc pc = .ok (.invokevirtual index, 3))
    (kk : ∀ (Ω1 : Om) (H1 : Heap) (locs1 : List Loc), post Ω1 → oW G A Ω1 H1 → va_S A0 s.heap H1 locs1 → W p l e R s m args below meth c H1 locs1 cells slots Q (F0 m (pc + 3) ls (.ref ra :: rest))) : W p l e R s m args below meth c H locs cells slots Q (F0 m pc ls st0) := by
  obtain ⟨h1, h2, h3, h4⟩ := o_num_ok hn
  subst hlen
  refine va_callr (va_runV (As := As) (rest := rest) ⟨hx, hb, hml, hown, hts⟩ hM (cwV _ hts hg rfl h3 h4 ⟨rfl, h1⟩ h2) ⟨oS_blind, va_recv hK (hW.one he) (q0 := 0) hc rfl, oS_ok hK hN hZ hS hA hW⟩ rfl rfl hls hst (lv_room hcat) hdg ⟨hcs.1, hcs.2⟩) hS (fun q _ h => hA q h) hA (fun u z t H1 locs1 ht hvm hw hB _ _ hS => ?_)
  obtain ⟨rfl, hB⟩ := hB
  exact kk u H1 locs1 hw (by rw [← ht]; exact hB) hS
end OR2
set_option maxHeartbeats 4000000 in
set_option maxRecDepth 100000 in
theorem c_X4_exchange (l : Launch) (G : Gm) (A : Nat → Prop) (Ω : Om) (p0 p0k p0b p1 : Nat) (h_p0 : inPar G Ω p0 p0k p0b) : Met l yX4_exchange (wz yX4_exchange cX4_exchange 3 (some (.object "MirrorBytes$Block"))) ({ frames := 2, cells := 0, slots := 0, locals := 21 } : Room) (va_Pc [.ref p0, .ref p1] (oS G A Ω)) (va_Qr (fun Ω1 : Om => Ω1 = oU Ω p0 (.inr (4, [.ref p0k, .ref p1]))) (fun Ω1 z t => z = p0b ∧ oB G A Ω1 t) A) 0 0 A := by
  refine Met.ofW (cc := cX4_exchange) (maxL := 3) (ret := (some (.object "MirrorBytes$Block"))) (by decide) rfl ?_
  intro p e s m args below meth c s₁ B hml hv
  obtain ⟨rfl, hW, hK, hN, hZ⟩ := hv
  have hx := B.exec
  have hb := B.bytes
  have hr := B.returns
  have hts : ∀ w ∈ gt, w.before _ s = true := fun w hw => atoms_spec (ws := wz yX4_exchange cX4_exchange 3 (some (.object "MirrorBytes$Block"))) B.pre w (List.mem_cons_of_mem _ hw)
  have hown : s.vm.findClass RX4 = some m.cls := findClass_of_methodNamed B.named
  have hlocks := B.notSynchronized
  have hA : ∀ q, A q → A q := fun _ h => h
  have hS : va_S A s.heap s.heap [] := va_S.rf
  have hl := lv_entry ([.ref p0, .ref p1]) (n := 3) (Nat.le_of_ble_eq_true rfl)
  rw [lg_entry_eq]
  generalize (lg_sl ([.ref p0, .ref p1]) ++ List.replicate (3 - (lg_sl ([.ref p0, .ref p1])).length) Slot.unset).toArray = ls at hl ⊢
  have hl : lv_has ls 3 [(0, .ref p0), (1, .ref p1)] := hl
  refine lv_aload_n hx hb dX4_exchange_0 rfl (lv_at hl 0 rfl) ?_
  refine o_get hx hb hts hown hK hW (inPar_o h_p0) rfl ig4 1 (by decide) fl_X4_12 rfl dX4_exchange_1 ?_
  refine lv_astore_n (lv' := [(2, .ref p0b), (0, .ref p0), (1, .ref p1)]) hx hb dX4_exchange_4 rfl hl (by decide) rfl (fun ls hl => ?_)
  refine lv_aload_n hx hb dX4_exchange_5 rfl (lv_at hl 1 rfl) ?_
  refine lv_aload_n hx hb dX4_exchange_6 rfl (lv_at hl 2 rfl) ?_
  refine o_put hx hb hts hown hK hW hS hA (inPar_o h_p0) rfl ig4 tyX4 tyX4_ok nmX4 1 (by decide) fl_X4_12 rfl (ty := .object "MirrorBytes$Block") (by decide +kernel) rfl rfl (Nat.le_of_ble_eq_true rfl) dX4_exchange_7 (fun H locs hW hS => ?_)
  refine lv_aload_n hx hb dX4_exchange_10 rfl (lv_at hl 0 rfl) ?_
  exact W.aret (v := .ref p0b) hx hb hr (Or.inl ⟨_, rfl⟩) (Or.inr ⟨_, rfl⟩) (fun t ht hW9 => ⟨⟨_, p0b, rfl, rfl, rfl, by rw [oB, ht]; exact hW⟩, hS.F ht⟩) hS.2.2 dX4_exchange_11
set_option maxHeartbeats 4000000 in
set_option maxRecDepth 100000 in
theorem t_tells {p : Program} {l : Launch} {e : Env} {s : State} {m : MethodId} {below : List Frame} {meth : Method} {c : Code} {H : Heap} {locs : List Loc} {ls : Array Slot} (G : Gm) (A : Nat → Prop) (Ω : Om) (P : Int32 → Om → Prop) (p0 : Nat) (p0b : Nat) (p0pb : Nat) (p0t_0 : Fn) (p0t_1 : Int32) (p0n_0 : Int32) (p0n_1 : Int32) (p0nd_0 : Fn) (p0nd_1 : Fn) (p0nd_2 : Fn) (p0nd_3 : Fn) (p0nm_0 : Fn) (p0nm_1 : Fn) (p0nm_2 : Fn) (p0nm_3 : Fn) (p0nj_0 : Int32) (p0nj_1 : Fn) (p0nj_2 : Fn) (p0nj_3 : Fn) (p0h_0 : Nat → Sit) (p0h_1 : Int32) (p0h_2 : Int32) (p0i_0 : Fn) (p0b_0 : Blk) (x1 : Int32) (hbo : (p0b = p0 + 4 ∧ p0pb = p0 + 132) ∨ (p0b = p0 + 132 ∧ p0pb = p0 + 4)) (hT_p0t : 0 ≤ p0t_1.toInt ∧ p0t_1.toInt ≤ 160) (hB_p0b : BlkInv p0b_0) (h_p0 : inMBO G Ω p0 p0b) (h_p0t : inTxt G Ω (p0 + 1) p0t_0 p0t_1) (h_p0n : inSitO G Ω (p0 + 18) p0n_0 p0n_1) (h_p0nd : inDev G Ω (p0 + 19) p0nd_0 p0nd_1 p0nd_2 p0nd_3) (h_p0nm : inDev G Ω (p0 + 24) p0nm_0 p0nm_1 p0nm_2 p0nm_3) (h_p0nj : inJou G Ω (p0 + 29) p0nj_0 p0nj_1 p0nj_2 p0nj_3) (h_p0h : inHis G Ω (p0 + 33) p0h_0 p0h_1 p0h_2) (h_p0i : inImH G Ω (p0 + 126) p0i_0) (h_p0b : inBlk G Ω p0b p0b_0) (hx : p.tables.exec = Jvm.exec) (hb : c.code = cX8_tells) (hml : c.maxLocals = 3) (hr : meth.sig.returnType = some .int) (hlocks : meth.locks = false) (hown : s.vm.findClass RX8 = some m.cls) (hts : ∀ w ∈ gt, w.before ([.ref p0] : List Value).toArray s = true) (hK : oK G s) (hN : oN s) (hZ : oZ A s s.heap) (hW : oW G A Ω H) (hS : va_S A s.heap H locs) (hl : lv_has ls 3 [(0, .ref p0), (1, .int x1)]) (hP : ∀ Ω1 : Om, (inTxt G Ω1 (p0 + 1) p0t_0 ((f_X8_tellsW p0nd_0 p0nd_1 p0nd_2 p0nd_3 p0nm_0 p0nm_1 p0nm_2 p0nm_3 p0i_0 p0b_0 x1).2.1) ∧ inSitO G Ω1 (p0 + 18) ((f_X8_tellsW p0nd_0 p0nd_1 p0nd_2 p0nd_3 p0nm_0 p0nm_1 p0nm_2 p0nm_3 p0i_0 p0b_0 x1).2.2.1) ((f_X8_tellsW p0nd_0 p0nd_1 p0nd_2 p0nd_3 p0nm_0 p0nm_1 p0nm_2 p0nm_3 p0i_0 p0b_0 x1).2.2.2.1) ∧ inDev G Ω1 (p0 + 19) ((f_X8_tellsW p0nd_0 p0nd_1 p0nd_2 p0nd_3 p0nm_0 p0nm_1 p0nm_2 p0nm_3 p0i_0 p0b_0 x1).2.2.2.2.1) ((f_X8_tellsW p0nd_0 p0nd_1 p0nd_2 p0nd_3 p0nm_0 p0nm_1 p0nm_2 p0nm_3 p0i_0 p0b_0 x1).2.2.2.2.2.1) ((f_X8_tellsW p0nd_0 p0nd_1 p0nd_2 p0nd_3 p0nm_0 p0nm_1 p0nm_2 p0nm_3 p0i_0 p0b_0 x1).2.2.2.2.2.2.1) ((f_X8_tellsW p0nd_0 p0nd_1 p0nd_2 p0nd_3 p0nm_0 p0nm_1 p0nm_2 p0nm_3 p0i_0 p0b_0 x1).2.2.2.2.2.2.2.1) ∧ inDev G Ω1 (p0 + 24) ((f_X8_tellsW p0nd_0 p0nd_1 p0nd_2 p0nd_3 p0nm_0 p0nm_1 p0nm_2 p0nm_3 p0i_0 p0b_0 x1).2.2.2.2.2.2.2.2.1) ((f_X8_tellsW p0nd_0 p0nd_1 p0nd_2 p0nd_3 p0nm_0 p0nm_1 p0nm_2 p0nm_3 p0i_0 p0b_0 x1).2.2.2.2.2.2.2.2.2.1) ((f_X8_tellsW p0nd_0 p0nd_1 p0nd_2 p0nd_3 p0nm_0 p0nm_1 p0nm_2 p0nm_3 p0i_0 p0b_0 x1).2.2.2.2.2.2.2.2.2.2.1) ((f_X8_tellsW p0nd_0 p0nd_1 p0nd_2 p0nd_3 p0nm_0 p0nm_1 p0nm_2 p0nm_3 p0i_0 p0b_0 x1).2.2.2.2.2.2.2.2.2.2.2.1) ∧ inJou G Ω1 (p0 + 29) ((f_X8_tellsW p0nd_0 p0nd_1 p0nd_2 p0nd_3 p0nm_0 p0nm_1 p0nm_2 p0nm_3 p0i_0 p0b_0 x1).2.2.2.2.2.2.2.2.2.2.2.2.1) p0nj_1 p0nj_2 p0nj_3 ∧ inHis G Ω1 (p0 + 33) p0h_0 p0h_1 ((f_X8_tellsW p0nd_0 p0nd_1 p0nd_2 p0nd_3 p0nm_0 p0nm_1 p0nm_2 p0nm_3 p0i_0 p0b_0 x1).2.2.2.2.2.2.2.2.2.2.2.2.2.1) ∧ inImH G Ω1 (p0 + 126) ((f_X8_tellsW p0nd_0 p0nd_1 p0nd_2 p0nd_3 p0nm_0 p0nm_1 p0nm_2 p0nm_3 p0i_0 p0b_0 x1).2.2.2.2.2.2.2.2.2.2.2.2.2.2) ∧ (∀ q : Nat, (q < (p0 + 1) ∨ (p0 + 1) + 2 ≤ q) → (q < (p0 + 18) ∨ (p0 + 18) + 1 ≤ q) → (q < (p0 + 19) ∨ (p0 + 19) + 5 ≤ q) → (q < (p0 + 24) ∨ (p0 + 24) + 5 ≤ q) → (q < (p0 + 29) ∨ (p0 + 29) + 4 ≤ q) → (q < (p0 + 33) ∨ (p0 + 33) + 92 ≤ q) → (q < (p0 + 126) ∨ (p0 + 126) + 1 ≤ q) → Ω1 q = Ω q)) → P x1 Ω1) : W p l e (headSpec (wz yX8_tells cX8_tells 3 (some .int)) ({ frames := 6, cells := 0, slots := 0, locals := 131 } : Room)).room s m ([.ref p0] : List Value).toArray below meth c H locs 0 0 (MQ below (va_Qi P (oB G A) A) ([.ref p0] : List Value).toArray s 0 0 A) (F0 m 31 ls []) := by
  have hA : ∀ q, A q → A q := fun _ h => h
  have hE : ∀ q : Nat, (q < (p0 + 1) ∨ (p0 + 1) + 2 ≤ q) → (q < (p0 + 18) ∨ (p0 + 18) + 1 ≤ q) → (q < (p0 + 19) ∨ (p0 + 19) + 5 ≤ q) → (q < (p0 + 24) ∨ (p0 + 24) + 5 ≤ q) → (q < (p0 + 29) ∨ (p0 + 29) + 4 ≤ q) → (q < (p0 + 33) ∨ (p0 + 33) + 92 ≤ q) → (q < (p0 + 126) ∨ (p0 + 126) + 1 ≤ q) → Ω q = Ω q := by intros; rfl
  generalize hR : (f_X8_tellsW p0nd_0 p0nd_1 p0nd_2 p0nd_3 p0nm_0 p0nm_1 p0nm_2 p0nm_3 p0i_0 p0b_0 x1) = R at hP
  rw [f_X8_tellsW] at hR
  refine lv_aload_n hx hb dX8_tells_31 rfl (lv_at hl 0 rfl) ?_
  refine o_get hx hb hts hown hK hW (inMBO_o h_p0) rfl ig8 0 (by decide) fl_X8_10 rfl dX8_tells_32 ?_
  refine lv_iconst (v := (0 : Int32)) hx hb dX8_tells_35 (by decide) ?_
  refine vTxt_1 hx hb hts hown hK hW hS hA h_p0t fl_X8_65 dX8_tells_36 (fun Ω_1 H locs h_p0t hF_1 hW hS => ?_)
  have h_p0 := h_p0.keep (fun q h1 h2 => hF_1 q (by omega))
  have h_p0n := h_p0n.keep (fun q h1 h2 => hF_1 q (by omega))
  have h_p0nd := h_p0nd.keep (fun q h1 h2 => hF_1 q (by omega))
  have h_p0nm := h_p0nm.keep (fun q h1 h2 => hF_1 q (by omega))
  have h_p0nj := h_p0nj.keep (fun q h1 h2 => hF_1 q (by omega))
  have h_p0h := h_p0h.keep (fun q h1 h2 => hF_1 q (by omega))
  have h_p0i := h_p0i.keep (fun q h1 h2 => hF_1 q (by omega))
  have h_p0b := h_p0b.keep (fun q h1 h2 => hF_1 q (by omega))
  have hE : ∀ q : Nat, (q < (p0 + 1) ∨ (p0 + 1) + 2 ≤ q) → (q < (p0 + 18) ∨ (p0 + 18) + 1 ≤ q) → (q < (p0 + 19) ∨ (p0 + 19) + 5 ≤ q) → (q < (p0 + 24) ∨ (p0 + 24) + 5 ≤ q) → (q < (p0 + 29) ∨ (p0 + 29) + 4 ≤ q) → (q < (p0 + 33) ∨ (p0 + 33) + 92 ≤ q) → (q < (p0 + 126) ∨ (p0 + 126) + 1 ≤ q) → Ω_1 q = Ω q := fun q g0 g1 g2 g3 g4 g5 g6 => (hF_1 q (by omega)).trans (hE q g0 g1 g2 g3 g4 g5 g6)
  refine lv_aload_n hx hb dX8_tells_39 rfl (lv_at hl 0 rfl) ?_
  refine o_get hx hb hts hown hK hW (inMBO_o h_p0) rfl ig8 2 (by decide) fl_X8_28 rfl dX8_tells_40 ?_
  refine lv_aload_n hx hb dX8_tells_43 rfl (lv_at hl 0 rfl) ?_
  refine o_get hx hb hts hown hK hW (inMBO_o h_p0) rfl ig8 7 (by decide) fl_X8_57 rfl dX8_tells_44 ?_
  refine o_Vv (rest := []) (As := [.ref p0b]) (n := 1) hx hb hml hown hts hK hN hZ hW hS hA (c_X5_startWith l G A Ω_1 (p0 + 18) p0b p0n_0 p0n_1 p0nd_0 p0nd_1 p0nd_2 p0nd_3 p0nm_0 p0nm_1 p0nm_2 p0nm_3 p0nj_0 p0nj_1 p0nj_2 p0nj_3 p0b_0 (by omega) hB_p0b h_p0n h_p0nd h_p0nm h_p0nj h_p0b) (inSitO_o h_p0n) rfl (good_V ml_X8_81 im_X5_startWith se_X5_startWith ini_X5 co_X5_startWith) (by decide +kernel) ⟨Nat.zero_le _, Nat.zero_le _⟩ hl.1 (Nat.le_of_ble_eq_true rfl) rfl rfl dX8_tells_47 (fun Ω_2 H locs hp hW hS => ?_)
  obtain ⟨h_p0n, h_p0nd, h_p0nm, h_p0nj, hF_2⟩ := hp
  have h_p0 := h_p0.keep (fun q h1 h2 => hF_2 q (by omega) (by omega) (by omega) (by omega))
  have h_p0t := h_p0t.keep (fun q h1 h2 => hF_2 q (by omega) (by omega) (by omega) (by omega))
  have h_p0h := h_p0h.keep (fun q h1 h2 => hF_2 q (by omega) (by omega) (by omega) (by omega))
  have h_p0i := h_p0i.keep (fun q h1 h2 => hF_2 q (by omega) (by omega) (by omega) (by omega))
  have h_p0b := h_p0b.keep (fun q h1 h2 => hF_2 q (by omega) (by omega) (by omega) (by omega))
  have hE : ∀ q : Nat, (q < (p0 + 1) ∨ (p0 + 1) + 2 ≤ q) → (q < (p0 + 18) ∨ (p0 + 18) + 1 ≤ q) → (q < (p0 + 19) ∨ (p0 + 19) + 5 ≤ q) → (q < (p0 + 24) ∨ (p0 + 24) + 5 ≤ q) → (q < (p0 + 29) ∨ (p0 + 29) + 4 ≤ q) → (q < (p0 + 33) ∨ (p0 + 33) + 92 ≤ q) → (q < (p0 + 126) ∨ (p0 + 126) + 1 ≤ q) → Ω_2 q = Ω q := fun q g0 g1 g2 g3 g4 g5 g6 => (hF_2 q (by omega) (by omega) (by omega) (by omega)).trans (hE q g0 g1 g2 g3 g4 g5 g6)
  generalize (f_X5_startWith p0nd_0 p0nd_1 p0nd_2 p0nd_3 p0nm_0 p0nm_1 p0nm_2 p0nm_3 p0b_0) = Z_2 at h_p0n h_p0nd h_p0nm h_p0nj hR
  obtain ⟨z2_0, z2_1, z2_2, z2_3, z2_4, z2_5, z2_6, z2_7, z2_8, z2_9, z2_10⟩ := Z_2
  dsimp only at h_p0n h_p0nd h_p0nm h_p0nj hR
  rw [f_X8_tellsW_C50] at hR
  refine lv_aload_n hx hb dX8_tells_50 rfl (lv_at hl 0 rfl) ?_
  refine o_get hx hb hts hown hK hW (inMBO_o h_p0) rfl ig8 3 (by decide) fl_X8_35 rfl dX8_tells_51 ?_
  refine o_Vv (rest := []) (As := []) (n := 0) hx hb hml hown hts hK hN hZ hW hS hA (c_X2_forget l G A Ω_2 (p0 + 33) p0h_0 p0h_1 p0h_2 h_p0h) (inHis_o h_p0h) rfl (good_V ml_X8_85 im_X2_forget se_X2_forget ini_X2 co_X2_forget) (by decide +kernel) ⟨Nat.zero_le _, Nat.zero_le _⟩ hl.1 (Nat.le_of_ble_eq_true rfl) rfl rfl dX8_tells_54 (fun Ω_3 H locs hp hW hS => ?_)
  obtain ⟨h_p0h, hF_3⟩ := hp
  have h_p0 := h_p0.keep (fun q h1 h2 => hF_3 q (by omega))
  have h_p0t := h_p0t.keep (fun q h1 h2 => hF_3 q (by omega))
  have h_p0n := h_p0n.keep (fun q h1 h2 => hF_3 q (by omega))
  have h_p0nd := h_p0nd.keep (fun q h1 h2 => hF_3 q (by omega))
  have h_p0nm := h_p0nm.keep (fun q h1 h2 => hF_3 q (by omega))
  have h_p0nj := h_p0nj.keep (fun q h1 h2 => hF_3 q (by omega))
  have h_p0i := h_p0i.keep (fun q h1 h2 => hF_3 q (by omega))
  have h_p0b := h_p0b.keep (fun q h1 h2 => hF_3 q (by omega))
  have hE : ∀ q : Nat, (q < (p0 + 1) ∨ (p0 + 1) + 2 ≤ q) → (q < (p0 + 18) ∨ (p0 + 18) + 1 ≤ q) → (q < (p0 + 19) ∨ (p0 + 19) + 5 ≤ q) → (q < (p0 + 24) ∨ (p0 + 24) + 5 ≤ q) → (q < (p0 + 29) ∨ (p0 + 29) + 4 ≤ q) → (q < (p0 + 33) ∨ (p0 + 33) + 92 ≤ q) → (q < (p0 + 126) ∨ (p0 + 126) + 1 ≤ q) → Ω_3 q = Ω q := fun q g0 g1 g2 g3 g4 g5 g6 => (hF_3 q (by omega)).trans (hE q g0 g1 g2 g3 g4 g5 g6)
  refine lv_iconst (v := (0 : Int32)) hx hb dX8_tells_57 (by decide) ?_
  refine lv_istore_n (lv' := [(2, .int (0 : Int32)), (0, .ref p0), (1, .int x1)]) hx hb dX8_tells_58 rfl hl (by decide) rfl (fun ls hl => ?_)
  have L59 : ∀ (n_5 : Nat) (x2_4 : Int32) (p0i_0_4 : Fn) (Ω_6 : Om) (H : Heap) (locs : List Loc), (0 ≤ x2_4.toInt ∧ x2_4.toInt ≤ 2 ∧ 2 - x2_4.toInt < n_5) → inMBO G Ω_6 p0 p0b → inTxt G Ω_6 (p0 + 1) p0t_0 (0 : Int32) → inSitO G Ω_6 (p0 + 18) z2_0 z2_1 → inDev G Ω_6 (p0 + 19) z2_2 z2_3 z2_4 z2_5 → inDev G Ω_6 (p0 + 24) z2_6 z2_7 z2_8 z2_9 → inJou G Ω_6 (p0 + 29) z2_10 p0nj_1 p0nj_2 p0nj_3 → inHis G Ω_6 (p0 + 33) p0h_0 p0h_1 f_X2_forget → inImH G Ω_6 (p0 + 126) p0i_0_4 → inBlk G Ω_6 p0b p0b_0 → (∀ q : Nat, (q < (p0 + 1) ∨ (p0 + 1) + 2 ≤ q) → (q < (p0 + 18) ∨ (p0 + 18) + 1 ≤ q) → (q < (p0 + 19) ∨ (p0 + 19) + 5 ≤ q) → (q < (p0 + 24) ∨ (p0 + 24) + 5 ≤ q) → (q < (p0 + 29) ∨ (p0 + 29) + 4 ≤ q) → (q < (p0 + 33) ∨ (p0 + 33) + 92 ≤ q) → (q < (p0 + 126) ∨ (p0 + 126) + 1 ≤ q) → Ω_6 q = Ω q) → oW G A Ω_6 H → va_S A s.heap H locs → ∀ ls : Array Slot, lv_has ls 3 [(0, .ref p0), (1, .int x1), (2, .int x2_4)] → (f_X8_tellsW_L59 (0 : Int32) z2_0 z2_1 z2_2 z2_3 z2_4 z2_5 z2_6 z2_7 z2_8 z2_9 z2_10 f_X2_forget x1 n_5 x2_4 p0i_0_4) = R → W p l e (headSpec (wz yX8_tells cX8_tells 3 (some .int)) ({ frames := 6, cells := 0, slots := 0, locals := 131 } : Room)).room s m ([.ref p0] : List Value).toArray below meth c H locs 0 0 (MQ below (va_Qi P (oB G A) A) ([.ref p0] : List Value).toArray s 0 0 A) (F0 m 59 ls []) := by
    intro n_5
    induction n_5 with
    | zero =>
      intro x2_4 p0i_0_4 Ω_6 H locs v_59_0 h_p0 h_p0t h_p0n h_p0nd h_p0nm h_p0nj h_p0h h_p0i h_p0b hE hW hS ls hl hR
      exfalso
      omega
    | succ n_5 ih59 =>
      intro x2_4 p0i_0_4 Ω_6 H locs v_59_0 h_p0 h_p0t h_p0n h_p0nd h_p0nm h_p0nj h_p0h h_p0i h_p0b hE hW hS ls hl hR
      rw [f_X8_tellsW_L59] at hR
      refine lv_iload_n hx hb dX8_tells_59 rfl (lv_at hl 2 rfl) ?_
      refine lv_iconst (v := (2 : Int32)) hx hb dX8_tells_60 (by decide) ?_
      have j_8 : (2 : Int32).toInt = 2 := by decide
      refine lv_icmp_ge (tgt := 77) hx hb dX8_tells_61 (by decide) (fun c_7 => ?_) (fun c_7 => ?_)
      · rw [if_pos c_7] at hR
        have i_7 := rle c_7
        refine lv_iload_n hx hb dX8_tells_77 rfl (lv_at hl 1 rfl) ?_
        subst hR
        exact W.iret (v := x1) hx hb hr (fun t ht hW9 => ⟨⟨x1, Ω_6, rfl, hP Ω_6 ⟨h_p0t, h_p0n, h_p0nd, h_p0nm, h_p0nj, h_p0h, h_p0i, hE⟩, by rw [oB, ht]; exact hW⟩, hS.F ht⟩) hS.2.2 dX8_tells_78
      · rw [if_neg c_7] at hR
        have i_7 := rnle c_7
        refine lv_aload_n hx hb dX8_tells_64 rfl (lv_at hl 0 rfl) ?_
        refine o_get hx hb hts hown hK hW (inMBO_o h_p0) rfl ig8 5 (by decide) fl_X8_43 rfl dX8_tells_65 ?_
        refine lv_iload_n hx hb dX8_tells_68 rfl (lv_at hl 2 rfl) ?_
        refine lv_iconst (v := (0 : Int32)) hx hb dX8_tells_69 (by decide) ?_
        refine wImH_0 hx hb hK hW hS hA h_p0i (vp_in_iff.mpr ⟨by omega, by omega⟩) dX8_tells_70 (fun Ω_9 H locs h_p0i hF_9 hW hS => ?_)
        have h_p0 := h_p0.keep (fun q h1 h2 => hF_9 q (by omega))
        have h_p0t := h_p0t.keep (fun q h1 h2 => hF_9 q (by omega))
        have h_p0n := h_p0n.keep (fun q h1 h2 => hF_9 q (by omega))
        have h_p0nd := h_p0nd.keep (fun q h1 h2 => hF_9 q (by omega))
        have h_p0nm := h_p0nm.keep (fun q h1 h2 => hF_9 q (by omega))
        have h_p0nj := h_p0nj.keep (fun q h1 h2 => hF_9 q (by omega))
        have h_p0h := h_p0h.keep (fun q h1 h2 => hF_9 q (by omega))
        have h_p0b := h_p0b.keep (fun q h1 h2 => hF_9 q (by omega))
        have hE : ∀ q : Nat, (q < (p0 + 1) ∨ (p0 + 1) + 2 ≤ q) → (q < (p0 + 18) ∨ (p0 + 18) + 1 ≤ q) → (q < (p0 + 19) ∨ (p0 + 19) + 5 ≤ q) → (q < (p0 + 24) ∨ (p0 + 24) + 5 ≤ q) → (q < (p0 + 29) ∨ (p0 + 29) + 4 ≤ q) → (q < (p0 + 33) ∨ (p0 + 33) + 92 ≤ q) → (q < (p0 + 126) ∨ (p0 + 126) + 1 ≤ q) → Ω_9 q = Ω q := fun q g0 g1 g2 g3 g4 g5 g6 => (hF_9 q (by omega)).trans (hE q g0 g1 g2 g3 g4 g5 g6)
        refine lv_iinc (v := (x2_4 + (1 : Int32))) (lv' := [(2, .int (x2_4 + (1 : Int32))), (0, .ref p0), (1, .int x1)]) hx hb dX8_tells_71 hl (k := 2) rfl rfl (by decide) rfl (fun ls hl => ?_)
        refine lv_goto (tgt := 59) hx hb dX8_tells_74 (by decide) ?_
        have j_10 : (1 : Int32).toInt = 1 := by decide
        try have j_11 : (x2_4 + (1 : Int32)).toInt = x2_4.toInt + (1 : Int32).toInt := fb_addI (by omega) (by omega)
        exact ih59 (x2_4 + (1 : Int32)) (upd p0i_0_4 x2_4.toNatClampNeg (vp_nar .boolean (0 : Int32))) Ω_9 H locs (by omega) h_p0 h_p0t h_p0n h_p0nd h_p0nm h_p0nj h_p0h h_p0i h_p0b hE hW hS ls (lv_sub hl [1, 2, 0] rfl) hR
  have j_12 : (0 : Int32).toInt = 0 := by decide
  exact L59 4000 (0 : Int32) p0i_0 Ω_3 H locs (by omega) h_p0 h_p0t h_p0n h_p0nd h_p0nm h_p0nj h_p0h h_p0i h_p0b hE hW hS ls (lv_sub hl [1, 2, 0] rfl) hR
set_option maxHeartbeats 4000000 in
set_option maxRecDepth 100000 in
theorem c_X8_tells (l : Launch) (G : Gm) (A : Nat → Prop) (Ω : Om) (p0 p0b p0pb : Nat) (p0t_0 : Fn) (p0t_1 : Int32) (p0pk_0 : Int32) (p0pk_1 : Int32) (p0pk_2 : Int32) (p0pb_0 : Blk) (p0n_0 : Int32) (p0n_1 : Int32) (p0nd_0 : Fn) (p0nd_1 : Fn) (p0nd_2 : Fn) (p0nd_3 : Fn) (p0nm_0 : Fn) (p0nm_1 : Fn) (p0nm_2 : Fn) (p0nm_3 : Fn) (p0nj_0 : Int32) (p0nj_1 : Fn) (p0nj_2 : Fn) (p0nj_3 : Fn) (p0h_0 : Nat → Sit) (p0h_1 : Int32) (p0h_2 : Int32) (p0i_0 : Fn) (p0b_0 : Blk) (hbo : (p0b = p0 + 4 ∧ p0pb = p0 + 132) ∨ (p0b = p0 + 132 ∧ p0pb = p0 + 4)) (hT_p0t : 0 ≤ p0t_1.toInt ∧ p0t_1.toInt ≤ 160) (hB_p0pb : BlkInv p0pb_0) (hB_p0b : BlkInv p0b_0) (h_p0 : inMBO G Ω p0 p0b) (h_p0t : inTxt G Ω (p0 + 1) p0t_0 p0t_1) (h_p0p : inPar G Ω (p0 + 3) (p0 + 17) p0pb) (h_p0pk : inTok G Ω (p0 + 17) (p0 + 1) p0pk_0 p0pk_1 p0pk_2) (h_p0pb : inBlk G Ω p0pb p0pb_0) (h_p0n : inSitO G Ω (p0 + 18) p0n_0 p0n_1) (h_p0nd : inDev G Ω (p0 + 19) p0nd_0 p0nd_1 p0nd_2 p0nd_3) (h_p0nm : inDev G Ω (p0 + 24) p0nm_0 p0nm_1 p0nm_2 p0nm_3) (h_p0nj : inJou G Ω (p0 + 29) p0nj_0 p0nj_1 p0nj_2 p0nj_3) (h_p0h : inHis G Ω (p0 + 33) p0h_0 p0h_1 p0h_2) (h_p0i : inImH G Ω (p0 + 126) p0i_0) (h_p0b : inBlk G Ω p0b p0b_0) : Met l yX8_tells (wz yX8_tells cX8_tells 3 (some .int)) ({ frames := 6, cells := 0, slots := 0, locals := 131 } : Room) (va_Pc [.ref p0] (oS G A Ω)) (va_Qi (fun (r : Int32) (Ω1 : Om) => r = (f_X4_parse p0pk_0 p0pk_2 p0t_0 p0t_1 p0pb_0).1 ∧ inTok G Ω1 (p0 + 17) (p0 + 1) ((f_X4_parse p0pk_0 p0pk_2 p0t_0 p0t_1 p0pb_0).2.1) ((f_X4_parse p0pk_0 p0pk_2 p0t_0 p0t_1 p0pb_0).2.2.1) ((f_X4_parse p0pk_0 p0pk_2 p0t_0 p0t_1 p0pb_0).2.2.2.1) ∧ inBlk G Ω1 p0pb ((f_X4_parse p0pk_0 p0pk_2 p0t_0 p0t_1 p0pb_0).2.2.2.2) ∧ (¬ (-10 : Int32) < (f_X4_parse p0pk_0 p0pk_2 p0t_0 p0t_1 p0pb_0).1 → (∀ q : Nat, (q < p0 + 17 ∨ p0 + 17 + 1 ≤ q) → (q < p0pb ∨ p0pb + 13 ≤ q) → Ω1 q = Ω q)) ∧ ((-10 : Int32) < (f_X4_parse p0pk_0 p0pk_2 p0t_0 p0t_1 p0pb_0).1 → inMBO G Ω1 p0 p0pb ∧ inPar G Ω1 (p0 + 3) (p0 + 17) p0b ∧ inBlk G Ω1 p0b p0b_0 ∧ (∀ q : Nat, q = p0 + 125 ∨ (p0 + 127 ≤ q ∧ q < p0 + 132) ∨ (p0 + 145 ≤ q ∧ q < p0 + 175) → Ω1 q = Ω q) ∧ inTxt G Ω1 (p0 + 1) p0t_0 ((f_X8_tellsW p0nd_0 p0nd_1 p0nd_2 p0nd_3 p0nm_0 p0nm_1 p0nm_2 p0nm_3 p0i_0 ((f_X4_parse p0pk_0 p0pk_2 p0t_0 p0t_1 p0pb_0).2.2.2.2) (f_X4_parse p0pk_0 p0pk_2 p0t_0 p0t_1 p0pb_0).1).2.1) ∧ inSitO G Ω1 (p0 + 18) ((f_X8_tellsW p0nd_0 p0nd_1 p0nd_2 p0nd_3 p0nm_0 p0nm_1 p0nm_2 p0nm_3 p0i_0 ((f_X4_parse p0pk_0 p0pk_2 p0t_0 p0t_1 p0pb_0).2.2.2.2) (f_X4_parse p0pk_0 p0pk_2 p0t_0 p0t_1 p0pb_0).1).2.2.1) ((f_X8_tellsW p0nd_0 p0nd_1 p0nd_2 p0nd_3 p0nm_0 p0nm_1 p0nm_2 p0nm_3 p0i_0 ((f_X4_parse p0pk_0 p0pk_2 p0t_0 p0t_1 p0pb_0).2.2.2.2) (f_X4_parse p0pk_0 p0pk_2 p0t_0 p0t_1 p0pb_0).1).2.2.2.1) ∧ inDev G Ω1 (p0 + 19) ((f_X8_tellsW p0nd_0 p0nd_1 p0nd_2 p0nd_3 p0nm_0 p0nm_1 p0nm_2 p0nm_3 p0i_0 ((f_X4_parse p0pk_0 p0pk_2 p0t_0 p0t_1 p0pb_0).2.2.2.2) (f_X4_parse p0pk_0 p0pk_2 p0t_0 p0t_1 p0pb_0).1).2.2.2.2.1) ((f_X8_tellsW p0nd_0 p0nd_1 p0nd_2 p0nd_3 p0nm_0 p0nm_1 p0nm_2 p0nm_3 p0i_0 ((f_X4_parse p0pk_0 p0pk_2 p0t_0 p0t_1 p0pb_0).2.2.2.2) (f_X4_parse p0pk_0 p0pk_2 p0t_0 p0t_1 p0pb_0).1).2.2.2.2.2.1) ((f_X8_tellsW p0nd_0 p0nd_1 p0nd_2 p0nd_3 p0nm_0 p0nm_1 p0nm_2 p0nm_3 p0i_0 ((f_X4_parse p0pk_0 p0pk_2 p0t_0 p0t_1 p0pb_0).2.2.2.2) (f_X4_parse p0pk_0 p0pk_2 p0t_0 p0t_1 p0pb_0).1).2.2.2.2.2.2.1) ((f_X8_tellsW p0nd_0 p0nd_1 p0nd_2 p0nd_3 p0nm_0 p0nm_1 p0nm_2 p0nm_3 p0i_0 ((f_X4_parse p0pk_0 p0pk_2 p0t_0 p0t_1 p0pb_0).2.2.2.2) (f_X4_parse p0pk_0 p0pk_2 p0t_0 p0t_1 p0pb_0).1).2.2.2.2.2.2.2.1) ∧ inDev G Ω1 (p0 + 24) ((f_X8_tellsW p0nd_0 p0nd_1 p0nd_2 p0nd_3 p0nm_0 p0nm_1 p0nm_2 p0nm_3 p0i_0 ((f_X4_parse p0pk_0 p0pk_2 p0t_0 p0t_1 p0pb_0).2.2.2.2) (f_X4_parse p0pk_0 p0pk_2 p0t_0 p0t_1 p0pb_0).1).2.2.2.2.2.2.2.2.1) ((f_X8_tellsW p0nd_0 p0nd_1 p0nd_2 p0nd_3 p0nm_0 p0nm_1 p0nm_2 p0nm_3 p0i_0 ((f_X4_parse p0pk_0 p0pk_2 p0t_0 p0t_1 p0pb_0).2.2.2.2) (f_X4_parse p0pk_0 p0pk_2 p0t_0 p0t_1 p0pb_0).1).2.2.2.2.2.2.2.2.2.1) ((f_X8_tellsW p0nd_0 p0nd_1 p0nd_2 p0nd_3 p0nm_0 p0nm_1 p0nm_2 p0nm_3 p0i_0 ((f_X4_parse p0pk_0 p0pk_2 p0t_0 p0t_1 p0pb_0).2.2.2.2) (f_X4_parse p0pk_0 p0pk_2 p0t_0 p0t_1 p0pb_0).1).2.2.2.2.2.2.2.2.2.2.1) ((f_X8_tellsW p0nd_0 p0nd_1 p0nd_2 p0nd_3 p0nm_0 p0nm_1 p0nm_2 p0nm_3 p0i_0 ((f_X4_parse p0pk_0 p0pk_2 p0t_0 p0t_1 p0pb_0).2.2.2.2) (f_X4_parse p0pk_0 p0pk_2 p0t_0 p0t_1 p0pb_0).1).2.2.2.2.2.2.2.2.2.2.2.1) ∧ inJou G Ω1 (p0 + 29) ((f_X8_tellsW p0nd_0 p0nd_1 p0nd_2 p0nd_3 p0nm_0 p0nm_1 p0nm_2 p0nm_3 p0i_0 ((f_X4_parse p0pk_0 p0pk_2 p0t_0 p0t_1 p0pb_0).2.2.2.2) (f_X4_parse p0pk_0 p0pk_2 p0t_0 p0t_1 p0pb_0).1).2.2.2.2.2.2.2.2.2.2.2.2.1) p0nj_1 p0nj_2 p0nj_3 ∧ inHis G Ω1 (p0 + 33) p0h_0 p0h_1 ((f_X8_tellsW p0nd_0 p0nd_1 p0nd_2 p0nd_3 p0nm_0 p0nm_1 p0nm_2 p0nm_3 p0i_0 ((f_X4_parse p0pk_0 p0pk_2 p0t_0 p0t_1 p0pb_0).2.2.2.2) (f_X4_parse p0pk_0 p0pk_2 p0t_0 p0t_1 p0pb_0).1).2.2.2.2.2.2.2.2.2.2.2.2.2.1) ∧ inImH G Ω1 (p0 + 126) ((f_X8_tellsW p0nd_0 p0nd_1 p0nd_2 p0nd_3 p0nm_0 p0nm_1 p0nm_2 p0nm_3 p0i_0 ((f_X4_parse p0pk_0 p0pk_2 p0t_0 p0t_1 p0pb_0).2.2.2.2) (f_X4_parse p0pk_0 p0pk_2 p0t_0 p0t_1 p0pb_0).1).2.2.2.2.2.2.2.2.2.2.2.2.2.2)) ∧ (∀ q : Nat, (q < p0 ∨ p0 + 175 ≤ q) → Ω1 q = Ω q)) (oB G A) A) 0 0 A := by
  refine Met.ofW (cc := cX8_tells) (maxL := 3) (ret := (some .int)) (by decide) rfl ?_
  intro p e s m args below meth c s₁ B hml hv
  obtain ⟨rfl, hW, hK, hN, hZ⟩ := hv
  have hx := B.exec
  have hb := B.bytes
  have hr := B.returns
  have hts : ∀ w ∈ gt, w.before _ s = true := fun w hw => atoms_spec (ws := wz yX8_tells cX8_tells 3 (some .int)) B.pre w (List.mem_cons_of_mem _ hw)
  have hown : s.vm.findClass RX8 = some m.cls := findClass_of_methodNamed B.named
  have hlocks := B.notSynchronized
  have hA : ∀ q, A q → A q := fun _ h => h
  have hS : va_S A s.heap s.heap [] := va_S.rf
  have hl := lv_entry ([.ref p0]) (n := 3) (Nat.le_of_ble_eq_true rfl)
  rw [lg_entry_eq]
  generalize (lg_sl ([.ref p0]) ++ List.replicate (3 - (lg_sl ([.ref p0])).length) Slot.unset).toArray = ls at hl ⊢
  have hl : lv_has ls 3 [(0, .ref p0)] := hl
  refine lv_aload_n hx hb dX8_tells_0 rfl (lv_at hl 0 rfl) ?_
  refine o_get hx hb hts hown hK hW (inMBO_o h_p0) rfl ig8 1 (by decide) fl_X8_21 rfl dX8_tells_1 ?_
  refine o_Vi (rest := []) (As := []) (n := 0) hx hb hml hown hts hK hN hZ hW hS hA (c_X4_parse l G A Ω (p0 + 3) (p0 + 17) (p0 + 1) p0pb p0pk_0 p0pk_1 p0pk_2 p0t_0 p0t_1 p0pb_0 (by omega) (by omega) (by omega) (by omega) (by omega) (by omega) hT_p0t hB_p0pb h_p0p h_p0pk h_p0t h_p0pb) (inPar_o h_p0p) rfl (good_V ml_X8_73 im_X4_parse se_X4_parse ini_X4 co_X4_parse) (by decide +kernel) ⟨Nat.zero_le _, Nat.zero_le _⟩ hl.1 (Nat.le_of_ble_eq_true rfl) rfl rfl dX8_tells_4 (fun r1 Ω_1 H locs hp hW hS => ?_)
  obtain ⟨hr1, h_p0pk, h_p0pb, hF_1⟩ := hp
  have h_p0 := h_p0.keep (fun q h1 h2 => hF_1 q (by omega) (by omega))
  have h_p0t := h_p0t.keep (fun q h1 h2 => hF_1 q (by omega) (by omega))
  have h_p0p := h_p0p.keep (fun q h1 h2 => hF_1 q (by omega) (by omega))
  have h_p0n := h_p0n.keep (fun q h1 h2 => hF_1 q (by omega) (by omega))
  have h_p0nd := h_p0nd.keep (fun q h1 h2 => hF_1 q (by omega) (by omega))
  have h_p0nm := h_p0nm.keep (fun q h1 h2 => hF_1 q (by omega) (by omega))
  have h_p0nj := h_p0nj.keep (fun q h1 h2 => hF_1 q (by omega) (by omega))
  have h_p0h := h_p0h.keep (fun q h1 h2 => hF_1 q (by omega) (by omega))
  have h_p0i := h_p0i.keep (fun q h1 h2 => hF_1 q (by omega) (by omega))
  have h_p0b := h_p0b.keep (fun q h1 h2 => hF_1 q (by omega) (by omega))
  have hB_q : BlkInv (f_X4_parse p0pk_0 p0pk_2 p0t_0 p0t_1 p0pb_0).2.2.2.2 := R_parse hB_p0pb hT_p0t
  generalize (f_X4_parse p0pk_0 p0pk_2 p0t_0 p0t_1 p0pb_0) = Q at hr1 h_p0pk h_p0pb hB_q ⊢
  obtain ⟨z1_0, z1_1, z1_2, z1_3, z1_4⟩ := Q
  dsimp only at hr1 h_p0pk h_p0pb hB_q ⊢
  subst hr1
  refine lv_istore_n (lv' := [(1, .int r1), (0, .ref p0)]) hx hb dX8_tells_7 rfl hl (by decide) rfl (fun ls hl => ?_)
  refine lv_iload_n hx hb dX8_tells_8 rfl (lv_at hl 0 rfl) ?_
  refine lv_bipush (v := (-10 : Int32)) hx hb dX8_tells_9 (by decide) ?_
  refine lv_icmp_gt (tgt := 16) hx hb dX8_tells_11 (by decide) (fun c_2 => ?_) (fun c_2 => ?_)
  · refine lv_aload_n hx hb dX8_tells_16 rfl (lv_at hl 1 rfl) ?_
    refine lv_aload_n hx hb dX8_tells_17 rfl (lv_at hl 1 rfl) ?_
    refine o_get hx hb hts hown hK hW (inMBO_o h_p0) rfl ig8 1 (by decide) fl_X8_21 rfl dX8_tells_18 ?_
    refine lv_aload_n hx hb dX8_tells_21 rfl (lv_at hl 1 rfl) ?_
    refine o_get hx hb hts hown hK hW (inMBO_o h_p0) rfl ig8 7 (by decide) fl_X8_57 rfl dX8_tells_22 ?_
    refine o_Vr (rest := [.ref p0]) (As := [.ref p0b]) (n := 1) hx hb hml hown hts hK hN hZ hW hS hA (c_X4_exchange l G A Ω_1 (p0 + 3) (p0 + 17) p0pb p0b h_p0p) (inPar_o h_p0p) rfl (good_V ml_X8_77 im_X4_exchange se_X4_exchange ini_X4 co_X4_exchange) (by decide +kernel) ⟨Nat.zero_le _, Nat.zero_le _⟩ hl.1 (Nat.le_of_ble_eq_true rfl) rfl rfl dX8_tells_25 (fun Ω_2 H locs hp hW hS => ?_)
    subst hp
    have h_p0 := h_p0.keep (fun q h1 h2 => (oU_ne (by omega) : oU Ω_1 (p0 + 3) (.inr (4, [.ref (p0 + 17), .ref p0b])) q = Ω_1 q))
    refine o_put hx hb hts hown hK hW hS hA (inMBO_o h_p0) rfl ig8 tyX8 tyX8_ok nmX8 7 (by decide) fl_X8_57 rfl (ty := .object "MirrorBytes$Block") (by decide +kernel) rfl rfl (Nat.le_of_ble_eq_true rfl) dX8_tells_28 (fun H locs hW hS => ?_)
    generalize hO : oU (oU Ω_1 (p0 + 3) (.inr (4, [.ref (p0 + 17), .ref p0b]))) p0 (.inr (8, _)) = Ω_3 at hW
    have hF_3 : ∀ q : Nat, q ≠ p0 → q ≠ p0 + 3 → Ω_3 q = Ω_1 q := fun q h1 h2 => by rw [← hO, oU_ne h1, oU_ne h2]
    have h_p0p : inPar G Ω_3 (p0 + 3) (p0 + 17) p0b := by show Ω_3 (p0 + 3) = _; rw [← hO, oU_ne (by omega)]; exact oU_self
    have h_p0 : inMBO G Ω_3 p0 p0pb := by show Ω_3 p0 = _; rw [← hO]; exact oU_self
    have h_p0t := h_p0t.keep (fun q h1 h2 => hF_3 q (by omega) (by omega))
    have h_p0pk := h_p0pk.keep (fun q h1 h2 => hF_3 q (by omega) (by omega))
    have h_p0pb := h_p0pb.keep (fun q h1 h2 => hF_3 q (by omega) (by omega))
    have h_p0n := h_p0n.keep (fun q h1 h2 => hF_3 q (by omega) (by omega))
    have h_p0nd := h_p0nd.keep (fun q h1 h2 => hF_3 q (by omega) (by omega))
    have h_p0nm := h_p0nm.keep (fun q h1 h2 => hF_3 q (by omega) (by omega))
    have h_p0nj := h_p0nj.keep (fun q h1 h2 => hF_3 q (by omega) (by omega))
    have h_p0h := h_p0h.keep (fun q h1 h2 => hF_3 q (by omega) (by omega))
    have h_p0i := h_p0i.keep (fun q h1 h2 => hF_3 q (by omega) (by omega))
    have h_p0b := h_p0b.keep (fun q h1 h2 => hF_3 q (by omega) (by omega))
    have hx0 : ∀ q : Nat, (q < p0 ∨ p0 + 175 ≤ q) → Ω_3 q = Ω q := fun q h => (hF_3 q (by omega) (by omega)).trans (hF_1 q (by omega) (by omega))
    refine t_tells G A Ω_3 _ p0 p0pb p0b p0t_0 p0t_1 p0n_0 p0n_1 p0nd_0 p0nd_1 p0nd_2 p0nd_3 p0nm_0 p0nm_1 p0nm_2 p0nm_3 p0nj_0 p0nj_1 p0nj_2 p0nj_3 p0h_0 p0h_1 p0h_2 p0i_0 z1_4 r1 (by omega) hT_p0t hB_q h_p0 h_p0t h_p0n h_p0nd h_p0nm h_p0nj h_p0h h_p0i h_p0pb hx hb hml hr hlocks hown hts hK hN hZ hW hS (lv_sub hl [1, 0] rfl) (fun Ω1 ht => ?_)
    obtain ⟨t0, t1, t2, t3, t4, t5, t6, hF_4⟩ := ht
    refine ⟨rfl, h_p0pk.keep (fun q h1 h2 => hF_4 q (by omega) (by omega) (by omega) (by omega) (by omega) (by omega) (by omega)), h_p0pb.keep (fun q h1 h2 => hF_4 q (by omega) (by omega) (by omega) (by omega) (by omega) (by omega) (by omega)), fun h => absurd c_2 h, fun _ => ⟨h_p0.keep (fun q h1 h2 => hF_4 q (by omega) (by omega) (by omega) (by omega) (by omega) (by omega) (by omega)), h_p0p.keep (fun q h1 h2 => hF_4 q (by omega) (by omega) (by omega) (by omega) (by omega) (by omega) (by omega)), h_p0b.keep (fun q h1 h2 => hF_4 q (by omega) (by omega) (by omega) (by omega) (by omega) (by omega) (by omega)), fun q h => ?_, t0, t1, t2, t3, t4, t5, t6⟩, fun q h => (hF_4 q (by omega) (by omega) (by omega) (by omega) (by omega) (by omega) (by omega)).trans (hx0 q h)⟩
    exact (hF_4 q (by omega) (by omega) (by omega) (by omega) (by omega) (by omega) (by omega)).trans ((hF_3 q (by omega) (by omega)).trans (hF_1 q (by omega) (by omega)))
  · refine lv_iload_n hx hb dX8_tells_14 rfl (lv_at hl 0 rfl) ?_
    exact W.iret (v := r1) hx hb hr (fun t ht hW9 => ⟨⟨r1, Ω_1, rfl, ⟨rfl, h_p0pk, h_p0pb, fun _ => hF_1, fun h => absurd h c_2, fun q h => hF_1 q (by omega) (by omega)⟩, by rw [oB, ht]; exact hW⟩, hS.F ht⟩) hS.2.2 dX8_tells_15
