/-! My own rows: the world as a function of addresses. -/
abbrev Om : Type := Nat → Option va_E
abbrev Gm : Type := va_G × ClassId × ClassId × ClassId
abbrev Fn : Type := Nat → Int32
def tysG (G : Gm) : List (ClassId × FieldType) := [(G.2.1, .int), (G.2.2.1, .boolean), (G.2.2.2, .object "MirrorBytes$Situation")]
def oK (G : Gm) (U : State) : Prop := va_K G.1 vwCl (tysG G) U
def oW (G : Gm) (A : Nat → Prop) (Ω : Om) (H : Heap) : Prop := ∀ a e, Ω a = some e → va_at G.1 vwCl (a, e) H ∧ A a
/-- the words of nest mates -/
def nestM : List (String × Nat × MethodName) := [(RX8, 9, yX6_init), (RX4, 11, yX0_init), (RX8, 27, yX5_init), (RX5, 11, yX1_init), (RX5, 23, yX3_init), (RX2, 17, yX5_init), (RX8, 49, yX1_init), (RX8, 56, yX0_init), (RX1, 62, yX8_isWithin), (RX0, 58, yX8_isWithin)]
def oN (U : State) : Prop := (∀ q ∈ nestM, va_Nw (.methodLinkNest q.1 q.2.1 q.2.2 "MirrorBytes") U) ∧ va_Nw (.fieldLinkNest RX7 41 "MirrorBytes" "KIND_LETTERS" "[C" "MirrorBytes") U
theorem oN.warm {s U : State} (hW : s.WarmedH U.vm) (h : oN s) : oN U := ⟨fun q hq => va_Nw.warmM hW (h.1 q hq), va_Nw.warmF hW h.2⟩
theorem oN.same {u U : State} (hvm : u.vm = U.vm) (h : oN u) : oN U := ⟨fun q hq => va_Nw.same rfl hvm (h.1 q hq), va_Nw.same rfl hvm h.2⟩
/-- the letters of the kinds, a static row of the class -/
def klL : List Int32 := [114, 119, 114, 111, 119, 111, 119, 99, 119, 115, 119, 116, 114, 99, 111, 110]
def kl (k : Nat) : Int32 := klL.getD k 0
def oZ (A : Nat → Prop) (U : State) (H : Heap) : Prop := ∃ t : Nat, va_Z "MirrorBytes" "KIND_LETTERS" "[C" (.ref t) A U H ∧ va_T .char t 16 (fun k => .int (kl k)) A U H
theorem oZ.moved {A : Nat → Prop} {u U : State} {H : Heap} (hvm : u.vm.Alike U.vm) (h : oZ A u H) : oZ A U H := by
  obtain ⟨t, h1, h2⟩ := h
  exact ⟨t, va_Z.moved hvm h1, va_T.moved hvm h2⟩
theorem oZ.kept {A : Nat → Prop} {U : State} {H H1 : Heap} (h : oZ A U H) (hq : ∀ a : Nat, a < H.size → ¬ A a → H1[a]? = H[a]?) : oZ A U H1 := by
  obtain ⟨t, h1, h2⟩ := h
  exact ⟨t, va_Z.kept h1 hq, va_T.kept h2 hq⟩
theorem oZ.narrow {A B : Nat → Prop} {U : State} {H : Heap} (h : oZ A U H) (hAB : ∀ q, B q → A q) : oZ B U H := by
  obtain ⟨t, h1, h2⟩ := h
  exact ⟨t, va_Z.narrow h1 hAB, va_T.narrow h2 hAB⟩
def oS (G : Gm) (A : Nat → Prop) (Ω : Om) (U : State) : Prop := oW G A Ω U.heap ∧ oK G U ∧ oN U ∧ oZ A U U.heap
def oB (G : Gm) (A : Nat → Prop) (Ω : Om) (U : State) : Prop := oW G A Ω U.heap
def oU (Ω : Om) (a : Nat) (e : va_E) : Om := fun q => if q = a then some e else Ω q
def oF (Ω Ω' : Om) (o k : Nat) : Prop := ∀ q : Nat, (q < o ∨ o + k ≤ q) → Ω' q = Ω q
theorem oU_self {Ω : Om} {a : Nat} {e : va_E} : oU Ω a e a = some e := if_pos rfl
theorem oU_ne {Ω : Om} {a q : Nat} {e : va_E} (h : q ≠ a) : oU Ω a e q = Ω q := if_neg h
theorem oF.rf {Ω : Om} {o k : Nat} : oF Ω Ω o k := fun _ _ => rfl
theorem oF.tr {Ω Ω1 Ω2 : Om} {o k : Nat} (h : oF Ω Ω1 o k) (h2 : oF Ω1 Ω2 o k) : oF Ω Ω2 o k := fun q hq => (h2 q hq).trans (h q hq)
theorem oF.wide {Ω Ω1 : Om} {o k o' k' : Nat} (h : oF Ω Ω1 o k) (h1 : o' ≤ o) (h2 : o + k ≤ o' + k') : oF Ω Ω1 o' k' := fun q hq => h q (by omega)
theorem oF.up {Ω : Om} {a : Nat} {e : va_E} {o k : Nat} (h1 : o ≤ a) (h2 : a < o + k) : oF Ω (oU Ω a e) o k := fun q hq => oU_ne (by omega)
theorem oW.one {G : Gm} {A : Nat → Prop} {Ω : Om} {H : Heap} {a : Nat} {e : va_E} (hW : oW G A Ω H) (he : Ω a = some e) : va_P G.1 vwCl [(a, e)] H := by
  intro k q hk
  have hz : k < 1 := (List.getElem?_eq_some_iff.mp hk).1
  rw [show k = 0 by omega] at hk
  cases hk
  exact (hW a e he).1
theorem oW.put {G : Gm} {A : Nat → Prop} {Ω : Om} {H H1 : Heap} {a : Nat} {e : va_E} (hW : oW G A Ω H) (he : va_at G.1 vwCl (a, e) H1) (oq : ∀ q : Nat, q ≠ a → H1[q]? = H[q]?) (ha : A a) : oW G A (oU Ω a e) H1 := by
  intro q f hq
  by_cases h : q = a
  · subst h
    rw [oU_self] at hq
    cases hq
    exact ⟨he, ha⟩
  · rw [oU_ne h] at hq
    exact ⟨(hW q f hq).1.kept (oq q h), (hW q f hq).2⟩
theorem oK.moved {G : Gm} {u U : State} (hvm : u.vm.Alike U.vm) (h : oK G u) : oK G U := va_K.moved hvm h
theorem oS_blind {G : Gm} {A : Nat → Prop} {Ω : Om} {av : List Value} : FrameBlind (va_Pc av (oS G A Ω)) := fun a U g mk q => ⟨q.1, q.2.1, va_K.moved (u := U) (U := U.calling g mk a) (Vm.Alike.refl U.vm) q.2.2.1, oN.same (u := U) (U := U.calling g mk a) rfl q.2.2.2.1, oZ.moved (u := U) (U := U.calling g mk a) (Vm.Alike.refl U.vm) q.2.2.2.2⟩
theorem oS_ok {G : Gm} {A A0 : Nat → Prop} {Ω : Om} {H : Heap} {locs : List Loc} {av : List Value} {s : State} (hK : oK G s) (hN : oN s) (hZ : oZ A0 s s.heap) (hS : va_S A0 s.heap H locs) (hA : ∀ q, A q → A0 q) (hW : oW G A Ω H) : ∀ U : State, U.heap = H → s.WarmedH U.vm → va_Pc av (oS G A Ω) av.toArray U := fun U hU hw => ⟨rfl, by rw [hU]; exact hW, va_K.moved hw.alike hK, oN.warm hw hN, by rw [hU]; exact oZ.moved hw.alike ((hZ.kept hS.2.1).narrow hA)⟩
/-- the words of a method: its code, and the tables -/
def wz (y : MethodName) (cc : ByteArray) (n : Nat) (ret : Option FieldType) : List Cond := .code y cc n ret :: gt
theorem good_wz {y : MethodName} {cc : ByteArray} {n : Nat} {ret : Option FieldType} (zc : Cond.code y cc n ret ∈ gt) : GoodIn gt (wz y cc n ret) := fun w h => by
  rcases List.mem_cons.mp h with h | h
  · rw [h]; exact ⟨zc, gt_good zc⟩
  · exact ⟨h, gt_good h⟩
theorem good_V {y : MethodName} {cc : ByteArray} {n : Nat} {ret : Option FieldType} {own C : String} {idx : Nat} (z1 : Cond.methodLink own idx y ∈ gt) (z2 : Cond.instanceMethod y ∈ gt) (z3 : Cond.selects C y y ∈ gt) (z4 : Cond.initialized C ∈ gt) (zc : Cond.code y cc n ret ∈ gt) : GoodIn gt (wsV own idx C y (wz y cc n ret)) := fun w h => by
  rcases List.mem_append.mp h with h | h
  · simp only [List.mem_cons, List.not_mem_nil, or_false] at h
    rcases h with h | h | h | h <;> rw [h]
    · exact ⟨z1, gt_good z1⟩
    · exact ⟨z2, gt_good z2⟩
    · exact ⟨z3, gt_good z3⟩
    · exact ⟨z4, gt_good z4⟩
  · exact good_wz zc w h
theorem good_S {y : MethodName} {cc : ByteArray} {n : Nat} {ret : Option FieldType} {own : String} {idx : Nat} (z1 : Cond.methodLink own idx y ∈ gt) (z2 : Cond.static y ∈ gt) (z4 : Cond.initialized own ∈ gt) (zc : Cond.code y cc n ret ∈ gt) : GoodIn gt (wsS own idx y (wz y cc n ret)) := fun w h => by
  rcases List.mem_append.mp h with h | h
  · simp only [List.mem_cons, List.not_mem_nil, or_false] at h
    rcases h with h | h | h <;> rw [h]
    · exact ⟨z1, gt_good z1⟩
    · exact ⟨z2, gt_good z2⟩
    · exact ⟨z4, gt_good z4⟩
  · exact good_wz zc w h
section OR
variable {p : Program} {l : Launch} {e : Env} {R : Room} {s : State} {m : MethodId} {args : Array Value} {below : List Frame} {meth : Method} {c : Code} {H : Heap} {locs : List Loc} {cells slots : Nat} {Q : State → Prop}
variable {cc : ByteArray} {pc : Nat} {ls : Array Slot} {rest : List Value} {G : Gm} {A A0 : Nat → Prop} {Ω : Om} {H0 : Heap} {a : Nat}
theorem o_get (hx : p.tables.exec = Jvm.exec) (hb : c.code = cc) {own C : String} {T : u_T} {N ci index : Nat} (hts : ∀ w ∈ gt, w.before args s = true) (hown : s.vm.findClass own = some m.cls) (hK : oK G s) (hW : oW G A Ω H) {fs : List Value} (he : Ω a = some (.inr (ci, fs))) (hc : vwCl[ci]? = some (C, T, N)) (hin : ∀ w ∈ u_ws C T N, w ∈ gt) (k : Nat) (hk : k < N) (hlink : Cond.fieldLink own index (T k).1 (T k).2.1 (T k).2.2.1 ∈ gt) {v : Value} (hv : fs[k]? = some v) (hdg : decode cc pc = .ok (.getfield index, 3))
    (kk : W p l e R s m args below meth c H locs cells slots Q (F0 m (pc + 3) ls (v :: rest))) : W p l e R s m args below meth c H locs cells slots Q (F0 m pc ls (.ref a :: rest)) :=
  va_get hx hb hts hin hown hK (hW.one he) 0 rfl hc k hk (hts _ hlink) (fun _ h => h) hv hdg kk
theorem o_put (hx : p.tables.exec = Jvm.exec) (hb : c.code = cc) {own C : String} {T : u_T} {N ci index : Nat} (hts : ∀ w ∈ gt, w.before args s = true) (hown : s.vm.findClass own = some m.cls) (hK : oK G s) (hW : oW G A Ω H) (hS0 : va_S A0 H0 H locs) (hA : ∀ q, A q → A0 q) {fs : List Value} (he : Ω a = some (.inr (ci, fs))) (hc : vwCl[ci]? = some (C, T, N)) (hin : ∀ w ∈ u_ws C T N, w ∈ gt) (ty0 : Nat → FieldType) (hty : ∀ k, k < N → parseFieldDescriptor (T k).2.2.1 = some (ty0 k)) (hnm : ∀ a, a < N → ∀ b, b < N → a ≠ b → (T a).2.1 ≠ (T b).2.1) (k : Nat) (hk : k < N) (hlink : Cond.fieldLink own index (T k).1 (T k).2.1 (T k).2.2.1 ∈ gt) (hfin : (T k).2.2.2 = false) {ty : FieldType} {v : Value} (hd : parseFieldDescriptor (T k).2.2.1 = some ty) (hn : narrow ty v = v) (hfit : fits ty v = true) (hl : k < fs.length) (hdg : decode cc pc = .ok (.putfield index, 3))
    (kk : ∀ (H1 : Heap) (locs1 : List Loc), oW G A (oU Ω a (.inr (ci, fs.set k v))) H1 → va_S A0 H0 H1 locs1 → W p l e R s m args below meth c H1 locs1 cells slots Q (F0 m (pc + 3) ls rest)) : W p l e R s m args below meth c H locs cells slots Q (F0 m pc ls (v :: .ref a :: rest)) := by
  have hap := va_apart (own := own) hts hin ty0 hty hnm hK hc
  have hA1 := (hW a _ he).2
  obtain ⟨r, h1, cell, q1, q2, q3, q4⟩ := (hW a _ he).1
  have hr : r = (C, T, N) := Option.some.inj (h1.symm.trans hc)
  subst hr
  obtain ⟨hS, hfc, kC, hkC, hkind⟩ := hK.1 ci _ hc
  obtain ⟨cf, kf, fi, f, hi, hsl⟩ := hS k hk
  have hlay := hts _ (hin _ (u_in_lay hk))
  unfold u_lay at hlay
  rw [if_neg (by rw [hfin]; decide)] at hlay
  have hst := (u_facts hfc hkC (u_lays hts hin hk) hi).1
  have h6 := u_store hfc hkC hkind hlay hi hd hn hfit
  refine W.putK hx hb (f := f) ⟨hown, hts _ hlink, ⟨_, _, _, hi⟩, hst⟩ (by rw [q2]; exact h6) q1 q3 (by rw [hsl]; exact k2_hasslot (q4 k hk)) rfl rfl hdg fun H' e1 e2 e3 => ?_
  rw [hsl] at e1 ⊢
  exact kk H' _ (hW.put ⟨_, hc, t_OB.to (V := updV (vp_V fs) k v) ⟨_, e1, q2, q3, t_set q4 hap hk v⟩ (fun j _ => vp_updV_set hl v j)⟩ e3 hA1) (hS0.put e2 e3 (hA _ hA1))
theorem o_iald (hx : p.tables.exec = Jvm.exec) (hb : c.code = cc) (hK : oK G s) (hW : oW G A Ω H) {n : Nat} {f : Fn} (he : Ω a = some (.inl (G.2.1, n, .inl f))) {i : Int32} (hin : vp_in i n) (hdg : decode cc pc = .ok (.iaload, 1))
    (kk : W p l e R s m args below meth c H locs cells slots Q (F0 m (pc + 1) ls (.int (f i.toNatClampNeg) :: rest))) : W p l e R s m args below meth c H locs cells slots Q (F0 m pc ls (.int i :: .ref a :: rest)) :=
  va_iald hx hb hK (hW.one he) 0 0 rfl rfl hin hdg kk
theorem o_zald (hx : p.tables.exec = Jvm.exec) (hb : c.code = cc) (hK : oK G s) (hW : oW G A Ω H) {n : Nat} {f : Fn} (he : Ω a = some (.inl (G.2.2.1, n, .inl f))) {i : Int32} (hin : vp_in i n) (hdg : decode cc pc = .ok (.baload, 1))
    (kk : W p l e R s m args below meth c H locs cells slots Q (F0 m (pc + 1) ls (.int (f i.toNatClampNeg) :: rest))) : W p l e R s m args below meth c H locs cells slots Q (F0 m pc ls (.int i :: .ref a :: rest)) :=
  va_zald hx hb hK (hW.one he) 0 1 rfl rfl hin hdg kk
theorem o_aldq (hx : p.tables.exec = Jvm.exec) (hb : c.code = cc) (hK : oK G s) (hW : oW G A Ω H) {n : Nat} {f : Nat → Option Nat} (he : Ω a = some (.inl (G.2.2.2, n, .inr (.inr (.inr (.inr f)))))) {i : Int32} (hin : vp_in i n) (hdg : decode cc pc = .ok (.aaload, 1))
    (kk : W p l e R s m args below meth c H locs cells slots Q (F0 m (pc + 1) ls (va_rf (f i.toNatClampNeg) :: rest))) : W p l e R s m args below meth c H locs cells slots Q (F0 m pc ls (.int i :: .ref a :: rest)) :=
  va_aldq hx hb hK (hW.one he) 0 2 rfl rfl hin hdg kk
theorem o_iast (hx : p.tables.exec = Jvm.exec) (hb : c.code = cc) (hK : oK G s) (hW : oW G A Ω H) (hS : va_S A0 H0 H locs) (hA : ∀ q, A q → A0 q) {n : Nat} {f : Fn} (he : Ω a = some (.inl (G.2.1, n, .inl f))) {i x : Int32} (hin : vp_in i n) (hdg : decode cc pc = .ok (.iastore, 1))
    (kk : ∀ (H1 : Heap) (locs1 : List Loc), oW G A (oU Ω a (.inl (G.2.1, n, .inl (upd f i.toNatClampNeg x)))) H1 → va_S A0 H0 H1 locs1 → W p l e R s m args below meth c H1 locs1 cells slots Q (F0 m (pc + 1) ls rest)) : W p l e R s m args below meth c H locs cells slots Q (F0 m pc ls (.int x :: .int i :: .ref a :: rest)) := by
  refine W.iast hx hb (hW a _ he).1 ((hK.2 0 _ rfl).1 n (fun j => .int (f j))) (fun q => by cases q) (by show ¬ (i < 0 ∨ (arrV _ _ _).slots.size ≤ _); rw [arrV_size]; exact hin) rfl rfl hdg fun H1 e z oq => ?_
  refine kk H1 _ (hW.put ?_ oq (hW a _ he).2) (hS.put z oq (hA _ (hW a _ he).2))
  show H1[a]? = some (vp_cell _ _)
  rw [e]
  rw [vp_cell_i, vp_cell_i, arrV_store]
  congr 2
  funext q
  by_cases hq : q = i.toNatClampNeg
  · subst hq
    simp [updV, upd]
  · simp [updV, upd, hq]
theorem o_zast (hx : p.tables.exec = Jvm.exec) (hb : c.code = cc) (hK : oK G s) (hW : oW G A Ω H) (hS : va_S A0 H0 H locs) (hA : ∀ q, A q → A0 q) {n : Nat} {f : Fn} (he : Ω a = some (.inl (G.2.2.1, n, .inl f))) {i x : Int32} (hin : vp_in i n) (hdg : decode cc pc = .ok (.bastore, 1))
    (kk : ∀ (H1 : Heap) (locs1 : List Loc), oW G A (oU Ω a (.inl (G.2.2.1, n, .inl (upd f i.toNatClampNeg (vp_nar .boolean x))))) H1 → va_S A0 H0 H1 locs1 → W p l e R s m args below meth c H1 locs1 cells slots Q (F0 m (pc + 1) ls rest)) : W p l e R s m args below meth c H locs cells slots Q (F0 m pc ls (.int x :: .int i :: .ref a :: rest)) := by
  refine W.zast hx hb (hW a _ he).1 ((hK.2 1 _ rfl).1 n (fun j => .int (f j))) (fun q => by cases q) (by show ¬ (i < 0 ∨ (arrV _ _ _).slots.size ≤ _); rw [arrV_size]; exact hin) rfl rfl hdg fun H1 e z oq => ?_
  refine kk H1 _ (hW.put ?_ oq (hW a _ he).2) (hS.put z oq (hA _ (hW a _ he).2))
  show H1[a]? = some (vp_cell _ _)
  rw [e]
  rw [vp_cell_i, vp_cell_i, arrV_store]
  congr 2
  funext q
  by_cases hq : q = i.toNatClampNeg
  · subst hq
    simp [updV, upd, vp_nar]
    try rfl
  · simp [updV, upd, hq]
/-- System.arraycopy between two int rows, from 0 to 0 -/
theorem o_copy (hx : p.tables.exec = Jvm.exec) (hb : c.code = cc) (hml : c.maxLocals = ls.size) {own : String} {index : Nat} (hown : s.vm.findClass own = some m.cls) (hts : ∀ w ∈ gt, w.before args s = true) (hlink : Cond.methodLink own index arraycopyName ∈ gt) (hini : Cond.initialized "java/lang/System" ∈ gt)
    (hK : oK G s) (hW : oW G A Ω H) (hS : va_S A0 H0 H locs) (hA : ∀ q, A q → A0 q) {a0 : Nat} {n0 n1 : Nat} {f g : Fn} (ha0 : Ω a0 = some (.inl (G.2.1, n0, .inl f))) (ha1 : Ω a = some (.inl (G.2.1, n1, .inl g)))
    {sp dp n : Int32} (h1 : ¬ sp < 0) (h2 : ¬ dp < 0) (h3 : ¬ n < 0) (h4 : sp.toNatClampNeg + n.toNatClampNeg ≤ n0) (h5 : dp.toNatClampNeg + n.toNatClampNeg ≤ n1)
    (hframes : 1 ≤ R.frames) (hlocals : (rest.map fun v => v.category).sum + (nativeFrameWords "java/lang/System" "arraycopy" 5 + 11) ≤ R.locals) (hdg : decode cc pc = .ok (.invokestatic index, 3))
    (kk : ∀ (H1 : Heap) (locs1 : List Loc), oW G A (oU Ω a (.inl (G.2.1, n1, .inl (va_cpy f g sp.toNatClampNeg dp.toNatClampNeg n.toNatClampNeg)))) H1 → va_S A0 H0 H1 locs1 → W p l e R s m args below meth c H1 locs1 cells slots Q (F0 m (pc + 3) ls rest)) : W p l e R s m args below meth c H locs cells slots Q (F0 m pc ls (.int n :: .int dp :: .ref a :: .int sp :: .ref a0 :: rest)) := by
  have nn : ∀ z : Int32, ¬ z < 0 → z.toInt = (z.toNatClampNeg : Int) := by
    intro z hz
    have hz0 : (0 : Int) ≤ z.toInt := by
      have := Int32.not_lt.mp hz
      simpa using Int32.le_iff_toInt_le.mp this
    show z.toInt = ((z.toInt.toNat : Nat) : Int)
    omega
  intro T hT X
  have hc0 := (hW a0 _ ha0).1
  have hc1 := (hW a _ ha1).1
  obtain ⟨-, k0, hk0, cm0, hkk0⟩ := (hK.2 0 _ rfl).1 n0 (fun j => .int (f j))
  obtain ⟨-, k1, hk1, cm1, hkk1⟩ := (hK.2 0 _ rfl).1 n1 (fun j => .int (g j))
  obtain ⟨vm', X', step⟩ := X.arraycopy hx hown (hts _ hlink) (hts _ wm_acN) (hts _ wm_acS) (hts _ hini) (src := a0) (dst := a) (cs := vp_cell G.2.1 (n0, .inl f)) (cd := vp_cell G.2.1 (n1, .inl g)) (srcPos := sp) (destPos := dp) (n := n) (by rw [hT]; exact hc0) (by rw [hT]; exact hc1)
    (fun _ h => by cases h) (fun _ h => by cases h) (fun h => by cases h) (fun h => by cases h) hk0 hk1 hkk0 hkk1 (by simp [refKind]) h1 h2 h3
    (by rw [nn sp h1, nn n h3]; show ¬ _ > ((arrV G.2.1 n0 (fun j => .int (f j))).slots.size : Int); rw [arrV_size]; omega)
    (by rw [nn dp h2, nn n h3]; show ¬ _ > ((arrV G.2.1 n1 (fun j => .int (g j))).slots.size : Int); rw [arrV_size]; omega)
    (fun vm₁ _ i hi => by
      have e : (vp_cell G.2.1 (n0, .inl f)).slots.getD (sp.toNatClampNeg + i) .null = .int (f (sp.toNatClampNeg + i)) := by
        show (arrV G.2.1 n0 (fun j => .int (f j))).slots.getD _ _ = _
        rw [Array.getD_eq_getD_getElem?, arrV_read _ _ (by omega)]
        rfl
      refine ⟨?_, ?_⟩
      · rw [e]
        rfl
      · rw [e]
        exact trivial)
    (g := F0 m pc ls (.int n :: .int dp :: .ref a :: .int sp :: .ref a0 :: rest)) rfl (by rw [hml]) (rest := rest) rfl (by rw [hb]; exact hdg) hframes (by show 2 * 0 + _ + _ ≤ _; omega)
  have e1 : copied (vp_cell G.2.1 (n0, .inl f)) (vp_cell G.2.1 (n1, .inl g)) sp dp n = vp_cell G.2.1 (n1, .inl (va_cpy f g sp.toNatClampNeg dp.toNatClampNeg n.toNatClampNeg)) := va_copied (fun z => .int z) G.2.1 G.2.1 f g h4
  rw [e1] at X' step
  have hl : a < H.size := (Array.getElem?_eq_some_iff.mp hc1).1
  have hheap : ((T.setVm vm').setCell a (vp_cell G.2.1 (n1, .inl (va_cpy f g sp.toNatClampNeg dp.toNatClampNeg n.toNatClampNeg)))).heap = H.setIfInBounds a (vp_cell G.2.1 (n1, .inl (va_cpy f g sp.toNatClampNeg dp.toNatClampNeg n.toNatClampNeg))) := by rw [← hT]; rfl
  have oq : ∀ q : Nat, q ≠ a → (H.setIfInBounds a (vp_cell G.2.1 (n1, .inl (va_cpy f g sp.toNatClampNeg dp.toNatClampNeg n.toNatClampNeg))))[q]? = H[q]? := fun q hq => by simp [Array.getElem?_setIfInBounds, Ne.symm hq]
  have hAa := (hW a _ ha1).2
  obtain ⟨t, a1, b1⟩ := kk _ _ (hW.put (show (H.setIfInBounds a _)[a]? = some _ by simp [Array.getElem?_setIfInBounds, hl]) oq hAa) ⟨by simp; exact hS.1, fun q g1 g2 => by
      rw [oq q (fun e => g2 (by rw [e]; exact hA _ hAa))]
      exact hS.2.1 q g1 g2, fun q hq => by
      rcases List.mem_append.mp hq with h | h
      · exact hS.2.2 q h
      · obtain ⟨z, -, hz⟩ := List.mem_map.mp h
        rw [← hz]
        exact hA _ hAa⟩ _ hheap X'
  exact ⟨t, step t a1, b1⟩
/-- the side facts of a call, by numbers alone -/
def o_num (y : MethodName) (n : Nat) (rm R : Room) (maxL : Nat) : Bool := decide (y.cls ≠ "java/lang/invoke/MethodHandle") && decide (y.cls ≠ "java/lang/invoke/VarHandle") && decide ((parseMethodDescriptor y.desc).map (fun d => d.parameters.length) = some n) && Nat.ble (rm.frames + 1) R.frames && Nat.ble (8 + (maxL + 11) + rm.locals) R.locals && Nat.beq rm.cells 0 && Nat.beq rm.slots 0
theorem o_num_ok {y : MethodName} {n : Nat} {rm R : Room} {maxL : Nat} (h : o_num y n rm R maxL = true) : (y.cls ≠ "java/lang/invoke/MethodHandle" ∧ y.cls ≠ "java/lang/invoke/VarHandle" ∧ (parseMethodDescriptor y.desc).map (fun d => d.parameters.length) = some n) ∧ (rm.frames + 1 ≤ R.frames ∧ 8 + (maxL + 11) + rm.locals ≤ R.locals) ∧ rm.cells = 0 ∧ rm.slots = 0 := by
  simp only [o_num, Bool.and_eq_true, decide_eq_true_eq, Nat.ble_eq, Nat.beq_eq] at h
  obtain ⟨⟨⟨⟨⟨⟨h1, h2⟩, h3⟩, h4⟩, h5⟩, h6⟩, h7⟩ := h
  exact ⟨⟨h1, h2, h3⟩, ⟨h4, h5⟩, h6, h7⟩
theorem o_Vi {y : MethodName} {bytes : ByteArray} {maxL nL index ci N n : Nat} {ret : Option FieldType} {own : String} {T : u_T} {As st0 : List Value} {rm : Room} {fs : List Value} {post : Int32 → Om → Prop} (hx : p.tables.exec = Jvm.exec) (hb : c.code = cc) (hml : c.maxLocals = nL) (hown : s.vm.findClass own = some m.cls) (hts : ∀ w ∈ gt, w.before args s = true) (hK : oK G s) (hN : oN s) (hZ : oZ A0 s s.heap) (hW : oW G A Ω H) (hS : va_S A0 s.heap H locs) (hA : ∀ q, A q → A0 q)
    (hM : Met l y (wz y bytes maxL ret) rm (va_Pc (.ref a :: As) (oS G A Ω)) (va_Qi post (oB G A) A) 0 0 A) (he : Ω a = some (.inr (ci, fs))) (hc : vwCl[ci]? = some (y.cls, T, N)) (hg : GoodIn gt (wsV own index y.cls y (wz y bytes maxL ret))) (hn : o_num y n rm R maxL = true) (hcs : cells ≤ R.cells ∧ slots ≤ R.slots) (hls : ls.size = nL) (hcat : (rest.map fun v => v.category).sum ≤ 8) (hlen : As.length = n) (hst : st0 = As.reverse ++ .ref a :: rest) (hdg : decode cc pc = .ok (.invokevirtual index, 3))
    (kk : ∀ (r : Int32) (Ω1 : Om) (H1 : Heap) (locs1 : List Loc), post r Ω1 → oW G A Ω1 H1 → va_S A0 s.heap H1 locs1 → W p l e R s m args below meth c H1 locs1 cells slots Q (F0 m (pc + 3) ls (.int r :: rest))) : W p l e R s m args below meth c H locs cells slots Q (F0 m pc ls st0) := by
  obtain ⟨h1, h2, h3, h4⟩ := o_num_ok hn
  subst hlen
  refine va_calli (va_runV (As := As) (rest := rest) ⟨hx, hb, hml, hown, hts⟩ hM (cwV _ hts hg rfl h3 h4 ⟨rfl, h1⟩ h2) ⟨oS_blind, va_recv hK (hW.one he) (q0 := 0) hc rfl, oS_ok hK hN hZ hS hA hW⟩ rfl rfl hls hst (lv_room hcat) hdg ⟨hcs.1, hcs.2⟩) hS (fun q _ h => hA q h) hA (fun r u t H1 locs1 ht hvm hw hB _ _ hS => ?_)
  exact kk r u H1 locs1 hw (by rw [← ht]; exact hB) hS
theorem o_ViR {y : MethodName} {bytes : ByteArray} {maxL nL index ci N n : Nat} {ret : Option FieldType} {own : String} {T : u_T} {As st0 : List Value} {rm : Room} {fs : List Value} {post : Int32 → Prop} (hx : p.tables.exec = Jvm.exec) (hb : c.code = cc) (hml : c.maxLocals = nL) (hown : s.vm.findClass own = some m.cls) (hts : ∀ w ∈ gt, w.before args s = true) (hK : oK G s) (hN : oN s) (hZ : oZ A0 s s.heap) (hW : oW G A Ω H) (hS : va_S A0 s.heap H locs) (hA : ∀ q, A q → A0 q)
    (hM : Met l y (wz y bytes maxL ret) rm (va_Pc (.ref a :: As) (oS G A Ω)) (va_Qi (fun r Ω1 => post r ∧ Ω1 = Ω) (oB G A) A) 0 0 A) (he : Ω a = some (.inr (ci, fs))) (hc : vwCl[ci]? = some (y.cls, T, N)) (hg : GoodIn gt (wsV own index y.cls y (wz y bytes maxL ret))) (hn : o_num y n rm R maxL = true) (hcs : cells ≤ R.cells ∧ slots ≤ R.slots) (hls : ls.size = nL) (hcat : (rest.map fun v => v.category).sum ≤ 8) (hlen : As.length = n) (hst : st0 = As.reverse ++ .ref a :: rest) (hdg : decode cc pc = .ok (.invokevirtual index, 3))
    (kk : ∀ (r : Int32) (H1 : Heap) (locs1 : List Loc), post r → oW G A Ω H1 → va_S A0 s.heap H1 locs1 → W p l e R s m args below meth c H1 locs1 cells slots Q (F0 m (pc + 3) ls (.int r :: rest))) : W p l e R s m args below meth c H locs cells slots Q (F0 m pc ls st0) :=
  o_Vi hx hb hml hown hts hK hN hZ hW hS hA hM he hc hg hn hcs hls hcat hlen hst hdg (fun r Ω1 H1 locs1 hp hW hS => by
    obtain ⟨hp, hΩ⟩ := hp
    rw [hΩ] at hW
    exact kk r H1 locs1 hp hW hS)
theorem o_Vv {y : MethodName} {bytes : ByteArray} {maxL nL index ci N n : Nat} {ret : Option FieldType} {own : String} {T : u_T} {As st0 : List Value} {rm : Room} {fs : List Value} {post : Om → Prop} (hx : p.tables.exec = Jvm.exec) (hb : c.code = cc) (hml : c.maxLocals = nL) (hown : s.vm.findClass own = some m.cls) (hts : ∀ w ∈ gt, w.before args s = true) (hK : oK G s) (hN : oN s) (hZ : oZ A0 s s.heap) (hW : oW G A Ω H) (hS : va_S A0 s.heap H locs) (hA : ∀ q, A q → A0 q)
    (hM : Met l y (wz y bytes maxL ret) rm (va_Pc (.ref a :: As) (oS G A Ω)) (va_Qv post (oB G A) A) 0 0 A) (he : Ω a = some (.inr (ci, fs))) (hc : vwCl[ci]? = some (y.cls, T, N)) (hg : GoodIn gt (wsV own index y.cls y (wz y bytes maxL ret))) (hn : o_num y n rm R maxL = true) (hcs : cells ≤ R.cells ∧ slots ≤ R.slots) (hls : ls.size = nL) (hcat : (rest.map fun v => v.category).sum ≤ 8) (hlen : As.length = n) (hst : st0 = As.reverse ++ .ref a :: rest) (hdg : decode cc pc = .ok (.invokevirtual index, 3))
    (kk : ∀ (Ω1 : Om) (H1 : Heap) (locs1 : List Loc), post Ω1 → oW G A Ω1 H1 → va_S A0 s.heap H1 locs1 → W p l e R s m args below meth c H1 locs1 cells slots Q (F0 m (pc + 3) ls rest)) : W p l e R s m args below meth c H locs cells slots Q (F0 m pc ls st0) := by
  obtain ⟨h1, h2, h3, h4⟩ := o_num_ok hn
  subst hlen
  refine va_callv (va_runV (As := As) (rest := rest) ⟨hx, hb, hml, hown, hts⟩ hM (cwV _ hts hg rfl h3 h4 ⟨rfl, h1⟩ h2) ⟨oS_blind, va_recv hK (hW.one he) (q0 := 0) hc rfl, oS_ok hK hN hZ hS hA hW⟩ rfl rfl hls hst (lv_room hcat) hdg ⟨hcs.1, hcs.2⟩) hS (fun q _ h => hA q h) hA (fun u t H1 locs1 ht hvm hw hB _ _ hS => ?_)
  exact kk u H1 locs1 hw (by rw [← ht]; exact hB) hS
theorem o_Si {y : MethodName} {bytes : ByteArray} {maxL nL index n : Nat} {ret : Option FieldType} {own : String} {As st0 : List Value} {rm : Room} {post : Int32 → Om → Prop} (hx : p.tables.exec = Jvm.exec) (hb : c.code = cc) (hml : c.maxLocals = nL) (hown : s.vm.findClass own = some m.cls) (hts : ∀ w ∈ gt, w.before args s = true) (hK : oK G s) (hN : oN s) (hZ : oZ A0 s s.heap) (hW : oW G A Ω H) (hS : va_S A0 s.heap H locs) (hA : ∀ q, A q → A0 q)
    (hM : Met l y (wz y bytes maxL ret) rm (va_Pc As (oS G A Ω)) (va_Qi post (oB G A) A) 0 0 A) (z1 : Cond.methodLink own index y ∈ gt) (z2 : Cond.static y ∈ gt) (z3 : Cond.initialized y.cls ∈ gt) (zc : Cond.code y bytes maxL ret ∈ gt) (hn : o_num y n rm R maxL = true) (hcs : cells ≤ R.cells ∧ slots ≤ R.slots) (hls : ls.size = nL) (hcat : (rest.map fun v => v.category).sum ≤ 8) (hlen : As.length = n) (hst : st0 = As.reverse ++ rest) (hdg : decode cc pc = .ok (.invokestatic index, 3))
    (kk : ∀ (r : Int32) (Ω1 : Om) (H1 : Heap) (locs1 : List Loc), post r Ω1 → oW G A Ω1 H1 → va_S A0 s.heap H1 locs1 → W p l e R s m args below meth c H1 locs1 cells slots Q (F0 m (pc + 3) ls (.int r :: rest))) : W p l e R s m args below meth c H locs cells slots Q (F0 m pc ls st0) := by
  obtain ⟨h1, h2, h3, h4⟩ := o_num_ok hn
  subst hlen
  refine va_calli (va_runS (As := As) (rest := rest) ⟨hx, hb, hml, hown, hts⟩ hM ⟨callB_of _ hts (good_wz zc) rfl h3 h4 (hts _ z3) (hts _ z1) h1 h2, hts _ z2⟩ ⟨oS_blind, oS_ok hK hN hZ hS hA hW⟩ rfl rfl hls hst (lv_room hcat) hdg ⟨hcs.1, hcs.2⟩) hS (fun q _ h => hA q h) hA (fun r u t H1 locs1 ht hvm hw hB _ _ hS => ?_)
  exact kk r u H1 locs1 hw (by rw [← ht]; exact hB) hS
theorem o_SiR {y : MethodName} {bytes : ByteArray} {maxL nL index n : Nat} {ret : Option FieldType} {own : String} {As st0 : List Value} {rm : Room} {post : Int32 → Prop} (hx : p.tables.exec = Jvm.exec) (hb : c.code = cc) (hml : c.maxLocals = nL) (hown : s.vm.findClass own = some m.cls) (hts : ∀ w ∈ gt, w.before args s = true) (hK : oK G s) (hN : oN s) (hZ : oZ A0 s s.heap) (hW : oW G A Ω H) (hS : va_S A0 s.heap H locs) (hA : ∀ q, A q → A0 q)
    (hM : Met l y (wz y bytes maxL ret) rm (va_Pc As (oS G A Ω)) (va_Qi (fun r Ω1 => post r ∧ Ω1 = Ω) (oB G A) A) 0 0 A) (z1 : Cond.methodLink own index y ∈ gt) (z2 : Cond.static y ∈ gt) (z3 : Cond.initialized y.cls ∈ gt) (zc : Cond.code y bytes maxL ret ∈ gt) (hn : o_num y n rm R maxL = true) (hcs : cells ≤ R.cells ∧ slots ≤ R.slots) (hls : ls.size = nL) (hcat : (rest.map fun v => v.category).sum ≤ 8) (hlen : As.length = n) (hst : st0 = As.reverse ++ rest) (hdg : decode cc pc = .ok (.invokestatic index, 3))
    (kk : ∀ (r : Int32) (H1 : Heap) (locs1 : List Loc), post r → oW G A Ω H1 → va_S A0 s.heap H1 locs1 → W p l e R s m args below meth c H1 locs1 cells slots Q (F0 m (pc + 3) ls (.int r :: rest))) : W p l e R s m args below meth c H locs cells slots Q (F0 m pc ls st0) :=
  o_Si hx hb hml hown hts hK hN hZ hW hS hA hM z1 z2 z3 zc hn hcs hls hcat hlen hst hdg (fun r Ω1 H1 locs1 hp hW hS => by
    obtain ⟨hp, hΩ⟩ := hp
    rw [hΩ] at hW
    exact kk r H1 locs1 hp hW hS)
theorem o_SNi {y : MethodName} {bytes : ByteArray} {maxL nL index n : Nat} {ret : Option FieldType} {own : String} {As st0 : List Value} {rm : Room} {post : Int32 → Om → Prop} (hx : p.tables.exec = Jvm.exec) (hb : c.code = cc) (hml : c.maxLocals = nL) (hown : s.vm.findClass own = some m.cls) (hts : ∀ w ∈ gt, w.before args s = true) (hK : oK G s) (hN : oN s) (hZ : oZ A0 s s.heap) (hW : oW G A Ω H) (hS : va_S A0 s.heap H locs) (hA : ∀ q, A q → A0 q)
    (hM : Met l y (wz y bytes maxL ret) rm (va_Pc As (oS G A Ω)) (va_Qi post (oB G A) A) 0 0 A) (z1 : (own, index, y) ∈ nestM) (z2 : Cond.static y ∈ gt) (z3 : Cond.initialized y.cls ∈ gt) (zc : Cond.code y bytes maxL ret ∈ gt) (hn : o_num y n rm R maxL = true) (hcs : cells ≤ R.cells ∧ slots ≤ R.slots) (hls : ls.size = nL) (hcat : (rest.map fun v => v.category).sum ≤ 8) (hlen : As.length = n) (hst : st0 = As.reverse ++ rest) (hdg : decode cc pc = .ok (.invokestatic index, 3))
    (kk : ∀ (r : Int32) (Ω1 : Om) (H1 : Heap) (locs1 : List Loc), post r Ω1 → oW G A Ω1 H1 → va_S A0 s.heap H1 locs1 → W p l e R s m args below meth c H1 locs1 cells slots Q (F0 m (pc + 3) ls (.int r :: rest))) : W p l e R s m args below meth c H locs cells slots Q (F0 m pc ls st0) := by
  obtain ⟨h1, h2, h3, h4⟩ := o_num_ok hn
  subst hlen
  refine va_calli (va_runSN (As := As) (rest := rest) ⟨hx, hb, hml, hown, hts⟩ hM ⟨va_cnB _ hts (good_wz zc) rfl h3 h4 (hN.1 _ z1) (hts _ z3) h1 h2, hts _ z2, trivial⟩ ⟨oS_blind, oS_ok hK hN hZ hS hA hW⟩ rfl rfl hls hst (lv_room hcat) hdg ⟨hcs.1, hcs.2⟩) hS (fun q _ h => hA q h) hA (fun r u t H1 locs1 ht hvm hw hB _ _ hS => ?_)
  exact kk r u H1 locs1 hw (by rw [← ht]; exact hB) hS
theorem o_SNiR {y : MethodName} {bytes : ByteArray} {maxL nL index n : Nat} {ret : Option FieldType} {own : String} {As st0 : List Value} {rm : Room} {post : Int32 → Prop} (hx : p.tables.exec = Jvm.exec) (hb : c.code = cc) (hml : c.maxLocals = nL) (hown : s.vm.findClass own = some m.cls) (hts : ∀ w ∈ gt, w.before args s = true) (hK : oK G s) (hN : oN s) (hZ : oZ A0 s s.heap) (hW : oW G A Ω H) (hS : va_S A0 s.heap H locs) (hA : ∀ q, A q → A0 q)
    (hM : Met l y (wz y bytes maxL ret) rm (va_Pc As (oS G A Ω)) (va_Qi (fun r Ω1 => post r ∧ Ω1 = Ω) (oB G A) A) 0 0 A) (z1 : (own, index, y) ∈ nestM) (z2 : Cond.static y ∈ gt) (z3 : Cond.initialized y.cls ∈ gt) (zc : Cond.code y bytes maxL ret ∈ gt) (hn : o_num y n rm R maxL = true) (hcs : cells ≤ R.cells ∧ slots ≤ R.slots) (hls : ls.size = nL) (hcat : (rest.map fun v => v.category).sum ≤ 8) (hlen : As.length = n) (hst : st0 = As.reverse ++ rest) (hdg : decode cc pc = .ok (.invokestatic index, 3))
    (kk : ∀ (r : Int32) (H1 : Heap) (locs1 : List Loc), post r → oW G A Ω H1 → va_S A0 s.heap H1 locs1 → W p l e R s m args below meth c H1 locs1 cells slots Q (F0 m (pc + 3) ls (.int r :: rest))) : W p l e R s m args below meth c H locs cells slots Q (F0 m pc ls st0) :=
  o_SNi hx hb hml hown hts hK hN hZ hW hS hA hM z1 z2 z3 zc hn hcs hls hcat hlen hst hdg (fun r Ω1 H1 locs1 hp hW hS => by
    obtain ⟨hp, hΩ⟩ := hp
    rw [hΩ] at hW
    exact kk r H1 locs1 hp hW hS)
end OR
