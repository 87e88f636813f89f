
theorem arrV_ext {c : ClassId} {n : Nat} {F F' : Nat → Value} (h : ∀ i, i < n → F i = F' i) : arrV c n F = arrV c n F' := by
  show ({ cls := c, slots := Array.ofFn (n := n) fun j => F j.val, vm := .none } : Cell) = { cls := c, slots := Array.ofFn (n := n) fun j => F' j.val, vm := .none }
  rw [show (fun j : Fin n => F j.val) = (fun j : Fin n => F' j.val) from funext fun j => h j.val j.isLt]

theorem oW.extq {G : Gm} {A : Nat → Prop} {Ω : Om} {H : Heap} {a n : Nat} {cA : ClassId} {f g : Nat → Option Nat} (hW : oW G A Ω H) (he : Ω a = some (.inl (cA, n, .inr (.inr (.inr (.inr f)))))) (hfg : ∀ i, i < n → f i = g i) : ∃ Ω1 : Om, Ω1 a = some (.inl (cA, n, .inr (.inr (.inr (.inr g))))) ∧ (∀ q : Nat, q ≠ a → Ω1 q = Ω q) ∧ oW G A Ω1 H := by
  refine ⟨oU Ω a (.inl (cA, n, .inr (.inr (.inr (.inr g))))), oU_self, fun q h => oU_ne h, hW.put ?_ (fun _ _ => rfl) (hW a _ he).2⟩
  have h : H[a]? = some (vp_cell cA (n, .inr (.inr (.inr (.inr f))))) := (hW a _ he).1
  show H[a]? = some (vp_cell cA (n, .inr (.inr (.inr (.inr g)))))
  rw [h, vp_cell_q, vp_cell_q]
  exact congrArg some (arrV_ext (fun i hi => by rw [hfg i hi]))
theorem up6 {p0 i : Nat} (hi : i < 6) : (va_up (va_up (va_up (va_up (va_up (va_up (fun _ => none) ((0 : Int32).toNatClampNeg) (some (p0 + 2))) ((1 : Int32).toNatClampNeg) (some (p0 + 17))) ((2 : Int32).toNatClampNeg) (some (p0 + 32))) ((3 : Int32).toNatClampNeg) (some (p0 + 47))) ((4 : Int32).toNatClampNeg) (some (p0 + 62))) ((5 : Int32).toNatClampNeg) (some (p0 + 77))) i = some (p0 + 2 + 15 * i) := by
  rw [show ((0 : Int32).toNatClampNeg) = 0 from rfl, show ((1 : Int32).toNatClampNeg) = 1 from rfl, show ((2 : Int32).toNatClampNeg) = 2 from rfl, show ((3 : Int32).toNatClampNeg) = 3 from rfl, show ((4 : Int32).toNatClampNeg) = 4 from rfl, show ((5 : Int32).toNatClampNeg) = 5 from rfl]
  obtain rfl | rfl | rfl | rfl | rfl | rfl : i = 0 ∨ i = 1 ∨ i = 2 ∨ i = 3 ∨ i = 4 ∨ i = 5 := by omega
  all_goals simp [va_up]
theorem up2 {p0 i : Nat} (hi : i < 2) : (va_up (va_up (fun _ => none) ((0 : Int32).toNatClampNeg) (some (p0 + 145))) ((1 : Int32).toNatClampNeg) (some (p0 + 160))) i = some (p0 + 145 + 15 * i) := by
  rw [show ((0 : Int32).toNatClampNeg) = 0 from rfl, show ((1 : Int32).toNatClampNeg) = 1 from rfl]
  obtain rfl | rfl : i = 0 ∨ i = 1 := by omega
  all_goals simp [va_up]
theorem o_Im {p : Program} {l : Launch} {e : Env} {R : Room} {s : State} {m : MethodId} {args : Array Value} {below : List Frame} {meth : Method} {c : Code} {H : Heap} {locs : List Loc} {cells slots : Nat} {Q : State → Prop} {cc : ByteArray} {pc : Nat} {ls : Array Slot} {rest : List Value} {G : Gm} {A A0 : Nat → Prop} {Ω : Om} {a h : Nat} {y : MethodName} {bytes : ByteArray} {maxL nL index n mc ms : Nat} {own : String} {As st0 : List Value} {rm : Room} {post : Om → Prop} (hx : p.tables.exec = Jvm.exec) (hb : c.code = cc) (hml : c.maxLocals = nL) (hown : s.vm.findClass own = some m.cls) (hts : ∀ w ∈ gt, w.before args s = true) (hK : oK G s) (hN : oN s) (hZ : oZ A0 s s.heap) (hO : va_AO RX5 s) (hW : oW G A Ω H) (hS : va_S A0 s.heap H locs) (hA : ∀ q, A q → A0 q) (hz : H.size = h)
    (hM : Met l y (wz y bytes maxL none) rm (va_Pc (.ref a :: As) (oP G A Ω h)) (va_Qv post (oB G A) A) mc ms A) (z1 : Cond.methodLink own index y ∈ gt) (z2 : Cond.instanceMethod y ∈ gt) (z3 : Cond.initialized y.cls ∈ gt) (zc : Cond.code y bytes maxL none ∈ gt) (hy : y.name = "<init>") (hrc : rm.cells = mc) (hrs : rm.slots = ms) (hd : y.cls ≠ "java/lang/invoke/MethodHandle" ∧ y.cls ≠ "java/lang/invoke/VarHandle" ∧ (parseMethodDescriptor y.desc).map (fun d => d.parameters.length) = some n) (hR : rm.frames + 1 ≤ R.frames ∧ 8 + (maxL + 11) + rm.locals ≤ R.locals) (hcs : cells + mc ≤ R.cells ∧ slots + ms ≤ R.slots) (hls : ls.size = nL) (hcat : (rest.map fun v => v.category).sum ≤ 8) (hlen : As.length = n) (hst : st0 = As.reverse ++ .ref a :: rest) (hdg : decode cc pc = .ok (.invokespecial index, 3))
    (kk : ∀ (Ω1 : Om) (H1 : Heap) (locs1 : List Loc), post Ω1 → oW G A Ω1 H1 → va_S A0 s.heap H1 locs1 → W p l e R s m args below meth c H1 locs1 (cells + mc) (slots + ms) Q (F0 m (pc + 3) ls rest)) : W p l e R s m args below meth c H locs cells slots Q (F0 m pc ls st0) := by
  subst hlen
  refine va_callv (va_runI (As := As) (rest := rest) ⟨hx, hb, hml, hown, hts⟩ hM ⟨callB_of _ hts (good_wz zc) rfl hrc hrs (hts _ z3) (hts _ z1) hd hR, hy, hts _ z2⟩ ⟨oP_blind, oP_ok hK hN hZ hO hS hA hW hz⟩ rfl rfl hls hst (lv_room hcat) hdg ⟨hcs.1, hcs.2⟩) hS (fun q _ h => hA q h) hA (fun u t H1 locs1 ht hvm hw hB _ _ hS => ?_)
  exact kk u H1 locs1 hw (by rw [← ht]; exact hB) hS
