/-! rows for constructors: the world grows -/
def oP (G : Gm) (A : Nat → Prop) (Ω : Om) (h : Nat) (U : State) : Prop := oS G A Ω U ∧ va_AO RX5 U ∧ U.heap.size = h
def oBz (G : Gm) (A : Nat → Prop) (h : Nat) (Ω : Om) (U : State) : Prop := oW G A Ω U.heap ∧ U.heap.size = h
theorem oP_blind {G : Gm} {A : Nat → Prop} {Ω : Om} {h : Nat} {av : List Value} : FrameBlind (va_Pc av (oP G A Ω h)) := fun a U g mk q => ⟨q.1, (oS_blind a U g mk ⟨q.1, q.2.1⟩).2, va_AO.moved (u := U) (U := U.calling g mk a) (Vm.Alike.refl U.vm) q.2.2.1, q.2.2.2⟩
theorem oP_ok {G : Gm} {A A0 : Nat → Prop} {Ω : Om} {H : Heap} {locs : List Loc} {av : List Value} {s : State} {h : Nat} (hK : oK G s) (hN : oN s) (hZ : oZ A0 s s.heap) (hO : va_AO RX5 s) (hS : va_S A0 s.heap H locs) (hA : ∀ q, A q → A0 q) (hW : oW G A Ω H) (hz : H.size = h) : ∀ U : State, U.heap = H → s.WarmedH U.vm → va_Pc av (oP G A Ω h) av.toArray U := fun U hU hw => ⟨rfl, (oS_ok (av := av) hK hN hZ hS hA hW U hU hw).2, va_AO.moved hw.alike hO, by rw [hU]; exact hz⟩
section ORI
variable {p : Program} {l : Launch} {e : Env} {R : Room} {s : State} {m : MethodId} {args : Array Value} {below : List Frame} {meth : Method} {c : Code} {H : Heap} {locs : List Loc} {cells slots : Nat} {Q : State → Prop}
variable {cc : ByteArray} {pc : Nat} {ls : Array Slot} {rest : List Value} {G : Gm} {A A0 : Nat → Prop} {Ω : Om} {H0 : Heap} {a h : Nat}
theorem push_oq {H H1 : Heap} {h : Nat} (hz : H.size = h) (z1 : H1.size = h + 1) (o1 : ∀ q : Nat, q < h → H1[q]? = H[q]?) : ∀ q : Nat, q ≠ h → H1[q]? = H[q]? := by
  intro q hq
  by_cases hl : q < h
  · exact o1 q hl
  · rw [Array.getElem?_eq_none (by omega), Array.getElem?_eq_none (by omega)]
theorem push_S {A0 : Nat → Prop} {H0 H H1 : Heap} {locs : List Loc} {h : Nat} (hS : va_S A0 H0 H locs) (hz : H.size = h) (z1 : H1.size = h + 1) (o1 : ∀ q : Nat, q < h → H1[q]? = H[q]?) : va_S A0 H0 H1 locs := ⟨Nat.le_trans hS.1 (by omega), fun x h1 h2 => (o1 x (by have := hS.1; omega)).trans (hS.2.1 x h1 h2), hS.2.2⟩
theorem o_newI (hx : p.tables.exec = Jvm.exec) (hb : c.code = cc) (hts : ∀ w ∈ gt, w.before args s = true) (hK : oK G s) (hW : oW G A Ω H) (hS : va_S A0 H0 H locs) (hA : A h) {n : Int32} {N : Nat} (hn : ¬ n < 0) (hN : n.toNatClampNeg = N) (hbytes : N * 4 ≤ 536870912) (hcells : cells + 1 ≤ R.cells) (hslots : slots + N ≤ R.slots) (hdg : decode cc pc = .ok (.newarray .int, 2)) (hz : H.size = h)
    (kk : ∀ (Ω1 : Om) (H1 : Heap), Ω1 h = some (.inl (G.2.1, N, .inl (fun _ => 0))) → (∀ q : Nat, q ≠ h → Ω1 q = Ω q) → oW G A Ω1 H1 → H1.size = h + 1 → va_S A0 H0 H1 locs → W p l e R s m args below meth c H1 locs (cells + 1) (slots + N) Q (F0 m (pc + 2) ls (.ref h :: rest))) : W p l e R s m args below meth c H locs cells slots Q (F0 m pc ls (.int n :: rest)) := by
  refine va_newaK (atype := .int) hx hb (hts _ wm_arrI) rfl hdg rfl hn hN hbytes hcells hslots hz fun H1 cA e1 z1 o1 _ hNm => ?_
  have hc : cA = G.2.1 := Option.some.inj (hNm.symm.trans (hK.2 0 _ rfl).2)
  subst hc
  exact kk _ H1 oU_self (fun q hq => oU_ne hq) (hW.put (show H1[h]? = some (vp_cell _ _) by rw [vp_cell_i]; exact e1) (push_oq hz z1 o1) hA) z1 (push_S hS hz z1 o1)
theorem o_newZ (hx : p.tables.exec = Jvm.exec) (hb : c.code = cc) (hts : ∀ w ∈ gt, w.before args s = true) (hK : oK G s) (hW : oW G A Ω H) (hS : va_S A0 H0 H locs) (hA : A h) {n : Int32} {N : Nat} (hn : ¬ n < 0) (hN : n.toNatClampNeg = N) (hbytes : N * 4 ≤ 536870912) (hcells : cells + 1 ≤ R.cells) (hslots : slots + N ≤ R.slots) (hdg : decode cc pc = .ok (.newarray .boolean, 2)) (hz : H.size = h)
    (kk : ∀ (Ω1 : Om) (H1 : Heap), Ω1 h = some (.inl (G.2.2.1, N, .inl (fun _ => 0))) → (∀ q : Nat, q ≠ h → Ω1 q = Ω q) → oW G A Ω1 H1 → H1.size = h + 1 → va_S A0 H0 H1 locs → W p l e R s m args below meth c H1 locs (cells + 1) (slots + N) Q (F0 m (pc + 2) ls (.ref h :: rest))) : W p l e R s m args below meth c H locs cells slots Q (F0 m pc ls (.int n :: rest)) := by
  refine va_newaK (atype := .boolean) hx hb (hts _ wm_arrZ) rfl hdg rfl hn hN (Nat.le_trans (Nat.mul_le_mul_left N (show componentBytes (newarray.typeOf .boolean) ≤ 4 by decide)) hbytes) hcells hslots hz fun H1 cA e1 z1 o1 _ hNm => ?_
  have hc : cA = G.2.2.1 := Option.some.inj (hNm.symm.trans (hK.2 1 _ rfl).2)
  subst hc
  exact kk _ H1 oU_self (fun q hq => oU_ne hq) (hW.put (show H1[h]? = some (vp_cell _ _) by rw [vp_cell_i]; exact e1) (push_oq hz z1 o1) hA) z1 (push_S hS hz z1 o1)
theorem o_newS (hx : p.tables.exec = Jvm.exec) (hb : c.code = cc) (hts : ∀ w ∈ gt, w.before args s = true) {own : String} {index : Nat} (hown : s.vm.findClass own = some m.cls) (hcl : Cond.classLink own index RX5 ∈ gt) (hO : va_AO RX5 s) (hK : oK G s) (hW : oW G A Ω H) (hS : va_S A0 H0 H locs) (hA : A h) {n : Int32} {N : Nat} (hn : ¬ n < 0) (hN : n.toNatClampNeg = N) (hbytes : N * 4 ≤ 536870912) (hcells : cells + 1 ≤ R.cells) (hslots : slots + N ≤ R.slots) (hdg : decode cc pc = .ok (.anewarray index, 3)) (hz : H.size = h)
    (kk : ∀ (Ω1 : Om) (H1 : Heap), Ω1 h = some (.inl (G.2.2.2, N, .inr (.inr (.inr (.inr (fun _ => none)))))) → (∀ q : Nat, q ≠ h → Ω1 q = Ω q) → oW G A Ω1 H1 → H1.size = h + 1 → va_S A0 H0 H1 locs → W p l e R s m args below meth c H1 locs (cells + 1) (slots + N) Q (F0 m (pc + 3) ls (.ref h :: rest))) : W p l e R s m args below meth c H locs cells slots Q (F0 m pc ls (.int n :: rest)) := by
  subst hN
  refine W.anew hx hb hown (hts _ hcl) (va_AO.use hO) rfl hdg rfl hn hbytes hcells hslots fun cA kA comp f1 f2 f3 f4 => ?_
  obtain ⟨kA2, comp2, g1, g2, g3, g4⟩ := (hK.2 2 _ rfl).2
  have hc : cA = G.2.2.2 := Option.some.inj (f1.symm.trans g4)
  subst hc
  generalize hH1 : H.push ({ cls := G.2.2.2, slots := Array.replicate n.toNatClampNeg .null, vm := .none } : Cell) = H1
  have z1 : H1.size = h + 1 := by rw [← hH1, Array.size_push, hz]
  have e1 : H1[h]? = some (arrV G.2.2.2 n.toNatClampNeg (fun _ => .null)) := by rw [← hH1, ← hz, Array.getElem?_push_size, ← arrV_new]
  have o1 : ∀ q : Nat, q < h → H1[q]? = H[q]? := fun q hq => by rw [← hH1, Array.getElem?_push, if_neg (by omega)]
  rw [hz]
  exact kk _ H1 oU_self (fun q hq => oU_ne hq) (hW.put (show H1[h]? = some (vp_cell _ _) by rw [vp_cell_q]; exact e1) (push_oq hz z1 o1) hA) z1 (push_S hS hz z1 o1)
theorem o_new (hx : p.tables.exec = Jvm.exec) (hb : c.code = cc) {own C : String} {T : u_T} {N ci index : Nat} (hts : ∀ w ∈ gt, w.before args s = true) (hin : ∀ w ∈ u_ws C T N, w ∈ gt) (ty : Nat → FieldType) (hty : ∀ k, k < N → parseFieldDescriptor (T k).2.2.1 = some (ty k)) (hown : s.vm.findClass own = some m.cls) (hcl : Cond.classLink own index C ∈ gt) (hinst : Cond.instantiable C N ∈ gt) (hini : Cond.initialized C ∈ gt) (hK : oK G s) (hW : oW G A Ω H) (hS : va_S A0 H0 H locs) (hA : A h) (hc : vwCl[ci]? = some (C, T, N)) {fs : List Value} (hfs : ∀ j, j < N → defaultValue (ty j) = vp_V fs j) (hcells : cells + 1 ≤ R.cells) (hslots : slots + N ≤ R.slots) (hdg : decode cc pc = .ok (.new index, 3)) (hz : H.size = h)
    (kk : ∀ (Ω1 : Om) (H1 : Heap), Ω1 h = some (.inr (ci, fs)) → (∀ q : Nat, q ≠ h → Ω1 q = Ω q) → oW G A Ω1 H1 → H1.size = h + 1 → va_S A0 H0 H1 locs → W p l e R s m args below meth c H1 locs (cells + 1) (slots + N) Q (F0 m (pc + 3) ls (.ref h :: rest))) : W p l e R s m args below meth c H locs cells slots Q (F0 m pc ls rest) := by
  have hKn := hK.1 ci _ hc
  refine W.newcK hx hb hown (hts _ hcl) (hts _ hinst) (hts _ hini) rfl hdg hcells hslots hKn.2.1 hz fun H1 kC hkC e1 z1 o1 => ?_
  exact kk _ H1 oU_self (fun q hq => oU_ne hq) (hW.put ⟨_, hc, (u_born ty hts hin hKn hkC e1 hty).to hfs⟩ (push_oq hz z1 o1) hA) z1 (push_S hS hz z1 o1)
theorem o_IN {y : MethodName} {bytes : ByteArray} {maxL nL index n h1 mc ms : Nat} {own : String} {As st0 : List Value} {rm : Room} {post : Om → Prop} (hx : p.tables.exec = Jvm.exec) (hb : c.code = cc) (hml : c.maxLocals = nL) (hown : s.vm.findClass own = some m.cls) (hts : ∀ w ∈ gt, w.before args s = true) (hK : oK G s) (hN : oN s) (hZ : oZ A0 s s.heap) (hO : va_AO RX5 s) (hW : oW G A Ω H) (hS : va_S A0 s.heap H locs) (hA : ∀ q, A q → A0 q) (hz : H.size = h)
    (hM : Met l y (wz y bytes maxL none) rm (va_Pc (.ref a :: As) (oP G A Ω h)) (va_Qv post (oBz G A h1) A) mc ms A) (z1 : (own, index, y) ∈ nestM) (z2 : Cond.instanceMethod y ∈ gt) (z3 : Cond.initialized y.cls ∈ gt) (zc : Cond.code y bytes maxL none ∈ gt) (hy : y.name = "<init>") (hrc : rm.cells = mc) (hrs : rm.slots = ms) (hd : y.cls ≠ "java/lang/invoke/MethodHandle" ∧ y.cls ≠ "java/lang/invoke/VarHandle" ∧ (parseMethodDescriptor y.desc).map (fun d => d.parameters.length) = some n) (hR : rm.frames + 1 ≤ R.frames ∧ 8 + (maxL + 11) + rm.locals ≤ R.locals) (hcs : cells + mc ≤ R.cells ∧ slots + ms ≤ R.slots) (hls : ls.size = nL) (hcat : (rest.map fun v => v.category).sum ≤ 8) (hlen : As.length = n) (hst : st0 = As.reverse ++ .ref a :: rest) (hdg : decode cc pc = .ok (.invokespecial index, 3))
    (kk : ∀ (Ω1 : Om) (H1 : Heap) (locs1 : List Loc), post Ω1 → oW G A Ω1 H1 → H1.size = h1 → va_S A0 s.heap H1 locs1 → W p l e R s m args below meth c H1 locs1 (cells + mc) (slots + ms) Q (F0 m (pc + 3) ls rest)) : W p l e R s m args below meth c H locs cells slots Q (F0 m pc ls st0) := by
  subst hlen
  refine va_callv (va_runIN (As := As) (rest := rest) ⟨hx, hb, hml, hown, hts⟩ hM ⟨va_cnB _ hts (good_wz zc) rfl hrc hrs (hN.1 _ z1) (hts _ z3) hd hR, hy, hts _ z2⟩ ⟨oP_blind, oP_ok hK hN hZ hO hS hA hW hz⟩ rfl rfl hls hst (lv_room hcat) hdg ⟨hcs.1, hcs.2⟩) hS (fun q _ h => hA q h) hA (fun u t H1 locs1 ht hvm hw hB _ _ hS => ?_)
  exact kk u H1 locs1 hw (by rw [← ht]; exact hB.1) (by rw [← ht]; exact hB.2) hS
theorem o_I {y : MethodName} {bytes : ByteArray} {maxL nL index n h1 mc ms : Nat} {own : String} {As st0 : List Value} {rm : Room} {post : Om → Prop} (hx : p.tables.exec = Jvm.exec) (hb : c.code = cc) (hml : c.maxLocals = nL) (hown : s.vm.findClass own = some m.cls) (hts : ∀ w ∈ gt, w.before args s = true) (hK : oK G s) (hN : oN s) (hZ : oZ A0 s s.heap) (hO : va_AO RX5 s) (hW : oW G A Ω H) (hS : va_S A0 s.heap H locs) (hA : ∀ q, A q → A0 q) (hz : H.size = h)
    (hM : Met l y (wz y bytes maxL none) rm (va_Pc (.ref a :: As) (oP G A Ω h)) (va_Qv post (oBz G A h1) A) mc ms A) (z1 : Cond.methodLink own index y ∈ gt) (z2 : Cond.instanceMethod y ∈ gt) (z3 : Cond.initialized y.cls ∈ gt) (zc : Cond.code y bytes maxL none ∈ gt) (hy : y.name = "<init>") (hrc : rm.cells = mc) (hrs : rm.slots = ms) (hd : y.cls ≠ "java/lang/invoke/MethodHandle" ∧ y.cls ≠ "java/lang/invoke/VarHandle" ∧ (parseMethodDescriptor y.desc).map (fun d => d.parameters.length) = some n) (hR : rm.frames + 1 ≤ R.frames ∧ 8 + (maxL + 11) + rm.locals ≤ R.locals) (hcs : cells + mc ≤ R.cells ∧ slots + ms ≤ R.slots) (hls : ls.size = nL) (hcat : (rest.map fun v => v.category).sum ≤ 8) (hlen : As.length = n) (hst : st0 = As.reverse ++ .ref a :: rest) (hdg : decode cc pc = .ok (.invokespecial index, 3))
    (kk : ∀ (Ω1 : Om) (H1 : Heap) (locs1 : List Loc), post Ω1 → oW G A Ω1 H1 → H1.size = h1 → va_S A0 s.heap H1 locs1 → W p l e R s m args below meth c H1 locs1 (cells + mc) (slots + ms) Q (F0 m (pc + 3) ls rest)) : W p l e R s m args below meth c H locs cells slots Q (F0 m pc ls st0) := by
  subst hlen
  refine va_callv (va_runI (As := As) (rest := rest) ⟨hx, hb, hml, hown, hts⟩ hM ⟨callB_of _ hts (good_wz zc) rfl hrc hrs (hts _ z3) (hts _ z1) hd hR, hy, hts _ z2⟩ ⟨oP_blind, oP_ok hK hN hZ hO hS hA hW hz⟩ rfl rfl hls hst (lv_room hcat) hdg ⟨hcs.1, hcs.2⟩) hS (fun q _ h => hA q h) hA (fun u t H1 locs1 ht hvm hw hB _ _ hS => ?_)
  exact kk u H1 locs1 hw (by rw [← ht]; exact hB.1) (by rw [← ht]; exact hB.2) hS
theorem o_oI (hx : p.tables.exec = Jvm.exec) (hb : c.code = cc) {own : String} (hown : s.vm.findClass own = some m.cls) (hts : ∀ w ∈ gt, w.before args s = true) {idx : Nat} (hlink : Cond.methodLink own idx objectInit ∈ gt) (hml : ls.size = c.maxLocals) (hdg : decode cc pc = .ok (.invokespecial idx, 3)) (hframes : 1 ≤ R.frames) (hlocals : 12 ≤ R.locals)
    (kk : W p l e R s m args below meth c H locs cells slots Q (F0 m (pc + 3) ls [])) : W p l e R s m args below meth c H locs cells slots Q (F0 m pc ls [.ref a]) :=
  W.objInit hx hb hown (hts _ hlink) (hts _ wm_objI) (hts _ wm_objC) rfl hml rfl hdg hframes (by show 2 * 0 + 0 + 12 ≤ _; omega) kk
theorem o_putF (hx : p.tables.exec = Jvm.exec) (hb : c.code = cc) {own C : String} {T : u_T} {N ci index : Nat} (hts : ∀ w ∈ gt, w.before args s = true) (hown : s.vm.findClass own = some m.cls) (hK : oK G s) (hW : oW G A Ω H) (hS0 : va_S A0 H0 H locs) (hA : ∀ q, A q → A0 q) {fs : List Value} (he : Ω a = some (.inr (ci, fs))) (hc : vwCl[ci]? = some (C, T, N)) (hin : ∀ w ∈ u_ws C T N, w ∈ gt) (ty0 : Nat → FieldType) (hty : ∀ k, k < N → parseFieldDescriptor (T k).2.2.1 = some (ty0 k)) (hnm : ∀ a, a < N → ∀ b, b < N → a ≠ b → (T a).2.1 ≠ (T b).2.1) (k : Nat) (hk : k < N) (hlink : Cond.fieldLink own index (T k).1 (T k).2.1 (T k).2.2.1 ∈ gt) (hfin : (T k).2.2.2 = true) (hin2 : meth.name = "<init>") (hdecl : (T k).1 = own) {ty : FieldType} {v : Value} (hd : parseFieldDescriptor (T k).2.2.1 = some ty) (hn : narrow ty v = v) (hfit : fits ty v = true) (hl : k < fs.length) (hdg : decode cc pc = .ok (.putfield index, 3))
    (kk : ∀ (Ω1 : Om) (H1 : Heap) (locs1 : List Loc), Ω1 a = some (.inr (ci, fs.set k v)) → (∀ q : Nat, q ≠ a → Ω1 q = Ω q) → oW G A Ω1 H1 → H1.size = H.size → va_S A0 H0 H1 locs1 → W p l e R s m args below meth c H1 locs1 cells slots Q (F0 m (pc + 3) ls rest)) : W p l e R s m args below meth c H locs cells slots Q (F0 m pc ls (v :: .ref a :: rest)) := by
  have hap := va_apart (own := own) hts hin ty0 hty hnm hK hc
  have hA1 := (hW a _ he).2
  obtain ⟨r, h1, cell, q1, q2, q3, q4⟩ := (hW a _ he).1
  have hr : r = (C, T, N) := Option.some.inj (h1.symm.trans hc)
  subst hr
  obtain ⟨hS, hfc, kC, hkC, hkind⟩ := hK.1 ci _ hc
  obtain ⟨cf, kf, fi, f, hi, hsl⟩ := hS k hk
  have hlay := hts _ (hin _ (u_in_lay hk))
  unfold u_lay at hlay
  rw [if_pos hfin] at hlay
  have hst := (u_facts hfc hkC (u_lays hts hin hk) hi).1
  have hcf : m.cls = cf := by
    obtain ⟨_, _, c', _, _, _, -, -, hf', -, -, -, hown2, -⟩ := Cond.laysFinal_spec hlay
    have e1 : c' = cf := by have := hi.symm.trans hf'; simp at this; exact this.1.symm
    rw [hdecl] at hown2
    rw [← e1]; exact Option.some.inj (hown.symm.trans hown2)
  have h6 := u_fits hfc hkC hkind (Or.inr hlay) hi hd hn hfit
  refine W.putFinK hx hb hown (hts _ hlink) hi hst hcf hin2 (by rw [q2]; exact h6) q1 q3 (by rw [hsl]; exact k2_hasslot (q4 k hk)) rfl rfl hdg fun H' e1 e2 e3 => ?_
  rw [hsl] at e1 ⊢
  exact kk _ H' _ oU_self (fun q hq => oU_ne hq) (hW.put ⟨_, hc, t_OB.to (V := updV (vp_V fs) k v) ⟨_, e1, q2, q3, t_set q4 hap hk v⟩ (fun j _ => vp_updV_set hl v j)⟩ e3 hA1) e2 (hS0.put e2 e3 (hA _ hA1))
theorem o_putZ (hx : p.tables.exec = Jvm.exec) (hb : c.code = cc) {own C : String} {T : u_T} {N ci index : Nat} (hts : ∀ w ∈ gt, w.before args s = true) (hown : s.vm.findClass own = some m.cls) (hK : oK G s) (hW : oW G A Ω H) (hS0 : va_S A0 H0 H locs) (hA : ∀ q, A q → A0 q) {fs : List Value} (he : Ω a = some (.inr (ci, fs))) (hc : vwCl[ci]? = some (C, T, N)) (hin : ∀ w ∈ u_ws C T N, w ∈ gt) (ty0 : Nat → FieldType) (hty : ∀ k, k < N → parseFieldDescriptor (T k).2.2.1 = some (ty0 k)) (hnm : ∀ a, a < N → ∀ b, b < N → a ≠ b → (T a).2.1 ≠ (T b).2.1) (k : Nat) (hk : k < N) (hlink : Cond.fieldLink own index (T k).1 (T k).2.1 (T k).2.2.1 ∈ gt) (hfin : (T k).2.2.2 = false) {ty : FieldType} {v : Value} (hd : parseFieldDescriptor (T k).2.2.1 = some ty) (hn : narrow ty v = v) (hfit : fits ty v = true) (hl : k < fs.length) (hdg : decode cc pc = .ok (.putfield index, 3))
    (kk : ∀ (Ω1 : Om) (H1 : Heap) (locs1 : List Loc), Ω1 a = some (.inr (ci, fs.set k v)) → (∀ q : Nat, q ≠ a → Ω1 q = Ω q) → oW G A Ω1 H1 → H1.size = H.size → va_S A0 H0 H1 locs1 → W p l e R s m args below meth c H1 locs1 cells slots Q (F0 m (pc + 3) ls rest)) : W p l e R s m args below meth c H locs cells slots Q (F0 m pc ls (v :: .ref a :: rest)) := by
  have hap := va_apart (own := own) hts hin ty0 hty hnm hK hc
  have hA1 := (hW a _ he).2
  obtain ⟨r, h1, cell, q1, q2, q3, q4⟩ := (hW a _ he).1
  have hr : r = (C, T, N) := Option.some.inj (h1.symm.trans hc)
  subst hr
  obtain ⟨hS, hfc, kC, hkC, hkind⟩ := hK.1 ci _ hc
  obtain ⟨cf, kf, fi, f, hi, hsl⟩ := hS k hk
  have hlay := hts _ (hin _ (u_in_lay hk))
  unfold u_lay at hlay
  rw [if_neg (by rw [hfin]; decide)] at hlay
  have hst := (u_facts hfc hkC (u_lays hts hin hk) hi).1
  have h6 := u_store hfc hkC hkind hlay hi hd hn hfit
  refine W.putK hx hb (f := f) ⟨hown, hts _ hlink, ⟨_, _, _, hi⟩, hst⟩ (by rw [q2]; exact h6) q1 q3 (by rw [hsl]; exact k2_hasslot (q4 k hk)) rfl rfl hdg fun H' e1 e2 e3 => ?_
  rw [hsl] at e1 ⊢
  exact kk _ H' _ oU_self (fun q hq => oU_ne hq) (hW.put ⟨_, hc, t_OB.to (V := updV (vp_V fs) k v) ⟨_, e1, q2, q3, t_set q4 hap hk v⟩ (fun j _ => vp_updV_set hl v j)⟩ e3 hA1) e2 (hS0.put e2 e3 (hA _ hA1))
theorem o_qast (hx : p.tables.exec = Jvm.exec) (hb : c.code = cc) (hK : oK G s) (hW : oW G A Ω H) (hS : va_S A0 H0 H locs) (hA : ∀ q, A q → A0 q) {n v : Nat} {vs : List Value} {f : Nat → Option Nat} (he : Ω a = some (.inl (G.2.2.2, n, .inr (.inr (.inr (.inr f)))))) (hv : Ω v = some (.inr (5, vs))) {i : Int32} (hin : vp_in i n) (hdg : decode cc pc = .ok (.aastore, 1))
    (kk : ∀ (Ω1 : Om) (H1 : Heap) (locs1 : List Loc), Ω1 a = some (.inl (G.2.2.2, n, .inr (.inr (.inr (.inr (va_up f i.toNatClampNeg (some v))))))) → (∀ q : Nat, q ≠ a → Ω1 q = Ω q) → oW G A Ω1 H1 → H1.size = H.size → va_S A0 H0 H1 locs1 → W p l e R s m args below meth c H1 locs1 cells slots Q (F0 m (pc + 1) ls rest)) : W p l e R s m args below meth c H locs cells slots Q (F0 m pc ls (.ref v :: .int i :: .ref a :: rest)) := by
  have hlt : i.toNatClampNeg < n := Nat.not_le.mp fun q => hin (Or.inr q)
  have h0 : ¬ i < 0 := fun q => hin (Or.inl q)
  obtain ⟨r', hr', cellV, g1, g2, g3, -⟩ := (hW v _ hv).1
  have hc : vwCl[5]? = some (RX5, TX5, 5) := rfl
  have hcls := (hK.1 5 _ hc).2
  obtain ⟨kA, comp, k1, k2, k3, -⟩ := (hK.2 2 _ rfl).2
  have hcomp : comp = G.1.1 5 := Option.some.inj (k3.symm.trans hcls.1)
  subst hcomp
  obtain ⟨kC, hkC, -⟩ := hcls.2
  refine W.aast hx hb (hW a _ he).1 (fun q h => by cases h) (fun h => by cases h) k1 k2 rfl hkC ⟨h0, by show _ < (arrV _ _ _).slots.size; rw [arrV_size]; exact hlt⟩ g1 (fun q h => by rw [g3] at h; cases h) (by rw [g2]; exact hkC) (by rw [g2]; exact va_assign hcls) rfl rfl hdg fun H1 e z oq => ?_
  refine kk _ H1 _ oU_self (fun q hq => oU_ne hq) (hW.put ?_ oq (hW a _ he).2) z (hS.put z oq (hA _ (hW a _ he).2))
  show H1[a]? = some (vp_cell _ _)
  rw [e]
  rw [vp_cell_q, vp_cell_q, arrV_store]
  congr 2
  funext q
  by_cases hq : q = i.toNatClampNeg
  · subst hq
    simp [updV, va_up, va_rf]
  · simp [updV, va_up, hq]
end ORI
